/** No call throws or hangs, for any arguments in any state, also beyond the 512th call; and refusals change nothing. */
public final class NeverThrowsTest {
    private static final int[] EDGES = {
        Integer.MIN_VALUE, Integer.MIN_VALUE + 1, -129, -2, -1, 0, 1, 2, 3, 4, 5, 6, 7, 8, 9, 10, 11, 12, 15, 16, 20, 21, 40, 41,
        59, 60, 61, 100, 101, 200, 201, 240, 241, 1000, 10000, 10001, 65536, Integer.MAX_VALUE - 1, Integer.MAX_VALUE,
    };
    private static final int CALLS = 41;

    public static void main(String[] args) {
        for (int seed = 0; seed < 600; seed++) {
            one(seed);
        }
        Check.end();
    }

    private static void one(int seed) {
        Dice dice = new Dice(seed + 90000);
        MuseumFlight x = new MuseumFlight();
        int call = -1;
        try {
            for (int i = 0; i < 900; i++) {
                call = dice.next(CALLS);
                boolean ahead = x.status(10) == 0;
                if (ahead && i < 60) {
                    call = dice.next(12);
                }
                long before = told(x);
                long refused = refused(x);
                long answer = make(x, dice, call);
                if (refused(x) > refused) {
                    Check.holds("seed " + seed + ": one refusal, and its number", refused(x) == refused + 1 && answer <= -1 && answer >= -7);
                    Check.holds("seed " + seed + ": a refused call " + call + " changes nothing", told(x) == before);
                }
            }
        } catch (Throwable thrown) {
            Check.holds("seed " + seed + ", call " + call + " threw " + thrown, false);
        }
    }

    private static long refused(MuseumFlight x) {
        long sum = 0;
        for (int what = 11; what <= 17; what++) {
            sum += x.status(what);
        }
        return sum;
    }

    /** Most of what an object tells, as one number. */
    private static long told(MuseumFlight x) {
        long sum = 0;
        for (int what = 0; what <= 20; what++) {
            sum = sum * 31 + (what >= 11 && what <= 17 ? 0 : x.status(what));
        }
        for (int i = 0; i < 16; i++) {
            for (int what = 0; what < 8; what++) {
                sum = sum * 31 + x.about(i, what);
            }
            sum = sum * 31 + x.given(i) * 7 + x.begins(i) * 3 + x.holder(i, 5);
        }
        for (int s = 0; s < 8; s++) {
            sum = sum * 31 + x.holds(s) + 5 * x.element(s, 0) + 7 * x.element(s, 1);
        }
        for (int r = 0; r < 12; r++) {
            sum = sum * 31 + x.far(r);
        }
        return sum;
    }

    private static int small(Dice d) {
        return d.once(12) ? EDGES[d.next(EDGES.length)] : d.from(-1, 12);
    }

    private static int shelf(Dice d) {
        return d.once(12) ? EDGES[d.next(EDGES.length)] : d.next(5);
    }

    private static long make(MuseumFlight x, Dice d, int call) {
        int a = small(d);
        int b = small(d);
        int c = small(d);
        switch (call) {
            case 0: return x.door(a, b, c);
            case 1: return x.team(a);
            case 2: return x.thing(d.next(4), d.from(1, 100), d.from(1, 4), d.from(1, 5), d.from(0, 20));
            case 3: return x.thing(a, b, c, small(d), small(d));
            case 4: return x.label(shelf(d));
            case 5: return x.row(shelf(d), d.from(-1, 4), small(d));
            case 6: return x.set(shelf(d), small(d), d.once(2) ? a : (long) a << 33 | b);
            case 7: return x.show(shelf(d), a);
            case 8: return x.copy(shelf(d), shelf(d), a, b, c);
            case 9: return x.place(a, b, c);
            case 10: return x.air(small(d), shelf(d));
            case 11: return d.once(9) ? x.alarm(a) : x.danger(a, b);
            case 12: return x.plan(d.once(2));
            case 13: return x.gap();
            case 14: return x.block(a);
            case 15: return x.late(a, b);
            case 16: return x.minutes(a);
            case 17: return x.far(a);
            case 18: return x.given(a);
            case 19: return x.begins(a);
            case 20: return x.airIn(a, b);
            case 21: return x.band(a, b, c);
            case 22: return x.keep(a, b);
            case 23: return x.fuel(a);
            case 24: return x.spread(d.once(2));
            case 25: return x.move(a, b);
            case 26: return x.weeks(a);
            case 27: return x.lose(a);
            case 28: return x.found(a);
            case 29: return x.paper(a, b, c, small(d));
            case 30: return x.holder(a, b);
            case 31: return x.giveBack(a, b);
            case 32: return x.about(a, b);
            case 33: return x.seal(a, b, c);
            case 34: return x.quarrel(shelf(d), shelf(d), shelf(d));
            case 35: return x.said(shelf(d), shelf(d), shelf(d), a);
            case 36: return x.status(a);
            case 37: return x.holds(a);
            case 38: return x.worthIn(a);
            case 39: return x.element(a, b);
            default: return x.fault();
        }
    }
}
