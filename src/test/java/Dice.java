/** Numbers that look random, the same in each run. */
final class Dice {
    private long state;

    Dice(long seed) {
        state = seed * 0x9E3779B97F4A7C15L + 1;
        next(2);
        next(2);
    }

    int next(int bound) {
        state = state * 6364136223846793005L + 1442695040888963407L;
        return (int) ((state >>> 33) % bound);
    }

    int from(int least, int most) {
        return least + next(most - least + 1);
    }

    boolean once(int in) {
        return next(in) == 0;
    }
}
