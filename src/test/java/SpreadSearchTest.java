/** Promises 30 to 33 against every SPREAD there is, on many museums in THE YEARS. */
public final class SpreadSearchTest {
    private static int found = 0;
    private static int none = 0;
    private static int ofMany = 0;

    public static void main(String[] args) {
        for (int seed = 0; seed < 3000; seed++) {
            new SpreadSearchTest(seed).run();
        }
        System.out.println(found + " spreads, " + none + " times none, " + ofMany + " of 4 things or more");
        Check.holds("there were spreads", found > 500 && none > 500 && ofMany > 100);
        Check.end();
    }

    private final Dice dice;
    private final int seed;
    private final MuseumFlight x = new MuseumFlight();
    private final int[] kind = new int[16];
    private final int[] hands = new int[16];
    private final int[] where = new int[16];
    private final int[] harm = new int[16];
    private final int[] room = new int[5];
    private final int[] group = new int[5];
    private final int[] miles = new int[5];
    private final int[][] air = new int[5][];
    private final int[] from = new int[4];
    private final int[] to = {100, 100, 100, 100};
    private final int[] keep = new int[4];
    private int things;
    private int places;
    private int week;
    private int fuel;
    private int[] best;
    private int bestFuel;

    private SpreadSearchTest(int seed) {
        this.seed = seed;
        dice = new Dice(seed + 7000);
    }

    private void due(String call, long got, long want) {
        Check.due("seed " + seed + ", week " + week + ": " + call, got, want);
    }

    private void run() {
        build();
        for (int step = 0; step < 14; step++) {
            step();
            look();
        }
    }

    private void build() {
        things = dice.once(6) ? dice.from(7, 12) : dice.from(1, 6);
        x.door(0, 1, 1);
        x.team(4);
        for (int i = 0; i < things; i++) {
            kind[i] = dice.once(2) ? 0 : dice.next(4);
            hands[i] = dice.from(1, 4);
            where[i] = 300;
            x.thing(kind[i], 1, hands[i], 1, 0);
        }
        places = dice.from(1, dice.once(20) ? 5 : 4);
        int few = dice.once(2) ? 2 : 9;
        for (int p = 0; p < places; p++) {
            room[p] = dice.from(1, dice.once(2) ? 40 : 8);
            group[p] = dice.next(4);
            miles[p] = dice.from(1, few);
            x.place(room[p], group[p], miles[p]);
            tellAir(p);
        }
        for (int k = 0; k < 4; k++) {
            if (dice.once(3)) {
                tellBand(k);
            }
        }
        x.alarm(240);
        x.minutes(240);
    }

    /** AIR is 10, 30, 50, 70, 90 or MISSING. */
    private void tellAir(int p) {
        int size = dice.next(4);
        air[p] = new int[size];
        x.row(0, 1, size);
        for (int i = 0; i < size; i++) {
            air[p][i] = dice.once(8) ? -32768 : 10 + 20 * dice.next(5);
            x.set(0, i, air[p][i]);
        }
        due("air", x.air(p, 0), size);
    }

    private void tellBand(int k) {
        from[k] = dice.next(60);
        to[k] = dice.from(from[k], 100);
        x.band(k, from[k], to[k]);
    }

    private boolean missing(int p) {
        return air[p].length == 0 || air[p][week % air[p].length] == -32768;
    }

    private int distance(int p, int k) {
        int a = air[p][week % air[p].length];
        return a < from[k] ? from[k] - a : a > to[k] ? a - to[k] : 0;
    }

    private boolean suits(int p, int k) {
        return !missing(p) && distance(p, k) == 0;
    }

    private boolean inPlace(int i) {
        return where[i] >= 400 && where[i] < 500;
    }

    private void look() {
        for (int i = 0; i < things; i++) {
            due("where " + i, x.about(i, 0), where[i]);
            due("harm " + i, x.about(i, 5), harm[i]);
        }
        due("fuel", x.status(20), fuel);
    }

    private void step() {
        switch (dice.next(10)) {
            case 0: {
                int k = dice.next(4);
                int n = dice.next(3);
                due("keep", x.keep(k, n), keep[k]);
                keep[k] = n;
                break;
            }
            case 1: tellBand(dice.next(4)); break;
            case 2: tellAir(dice.next(places)); break;
            case 3: liveWeek(); break;
            case 4: strike(); break;
            case 5: find(); break;
            case 6: moveOne(); break;
            case 7: {
                int n = dice.next(200);
                fuel += n;
                due("fuel", x.fuel(n), fuel);
                break;
            }
            default: spread(dice.once(2)); break;
        }
    }

    private void liveWeek() {
        for (int i = 0; i < things; i++) {
            if (where[i] == 300) {
                harm[i] += 10;
            } else if (inPlace(i)) {
                int p = where[i] - 400;
                harm[i] += missing(p) ? 5 : distance(p, kind[i]);
            }
        }
        week++;
        due("weeks", x.weeks(1), week);
    }

    private void strike() {
        int g = dice.next(4);
        int lost = 0;
        for (int i = 0; i < things; i++) {
            if (inPlace(i) && group[where[i] - 400] == g) {
                where[i] = 500;
                lost++;
            }
        }
        due("lose", x.lose(g), lost);
    }

    private void find() {
        int i = dice.next(things);
        boolean lost = where[i] == 500;
        due("found", x.found(i), lost ? 1 : -6);
        where[i] = lost ? 300 : where[i];
    }

    private int cost(int i, int p) {
        return hands[i] * (miles[p] + (inPlace(i) ? miles[where[i] - 400] : 0));
    }

    private void moveOne() {
        int i = dice.next(things);
        int p = dice.next(places);
        int load = hands[i];
        for (int j = 0; j < things; j++) {
            load += where[j] == 400 + p ? hands[j] : 0;
        }
        boolean wrong = where[i] != 300 && !inPlace(i) || where[i] == 400 + p || load > room[p];
        if (wrong || cost(i, p) > fuel) {
            due("move", x.move(i, p), wrong ? -6 : -7);
            return;
        }
        fuel -= cost(i, p);
        where[i] = 400 + p;
        due("move", x.move(i, p), fuel);
    }

    private void spread(boolean move) {
        int[] movers = new int[things];
        int n = 0;
        for (int i = 0; i < things; i++) {
            if (where[i] == 300 || inPlace(i) && !suits(where[i] - 400, kind[i])) {
                movers[n++] = i;
            }
        }
        if (n > 8) {
            due("spread", x.spread(move), -7);
            return;
        }
        best = null;
        search(movers, n, 0, where.clone(), 0);
        if (best == null) {
            none++;
            due("spread", x.spread(move), -6);
            return;
        }
        found++;
        ofMany += n >= 4 ? 1 : 0;
        if (move && bestFuel > fuel) {
            due("spread", x.spread(true), -7);
            return;
        }
        due("spread", x.spread(move), bestFuel);
        if (move) {
            fuel -= bestFuel;
            System.arraycopy(best, 0, where, 0, 16);
        }
    }

    private void search(int[] movers, int n, int at, int[] then, int cost) {
        if (at == n) {
            if ((best == null || cost < bestFuel) && stands(then)) {
                best = then.clone();
                bestFuel = cost;
            }
            return;
        }
        int i = movers[at];
        for (int p = 0; p < places; p++) {
            if (where[i] != 400 + p && suits(p, kind[i])) {
                then[i] = 400 + p;
                search(movers, n, at + 1, then, cost + cost(i, p));
            }
        }
        then[i] = where[i];
    }

    private boolean stands(int[] then) {
        for (int p = 0; p < places; p++) {
            int load = 0;
            for (int i = 0; i < things; i++) {
                load += then[i] == 400 + p ? hands[i] : 0;
            }
            if (load > room[p]) {
                return false;
            }
        }
        for (int g = 0; g < 4; g++) {
            for (int k = 0; k < 4; k++) {
                int elsewhere = 0;
                for (int i = 0; i < things; i++) {
                    boolean in = then[i] >= 400 && then[i] < 500;
                    elsewhere += in && kind[i] == k && group[then[i] - 400] != g ? 1 : 0;
                }
                if (elsewhere < keep[k]) {
                    return false;
                }
            }
        }
        return true;
    }
}
