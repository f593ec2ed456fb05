import java.util.function.ToLongFunction;

/** Promises 24 to 34 and "THE YEARS", sentence by sentence: the edges that are named, on both sides. */
public final class YearsEdgesTest {
    private static final int MIN = Museums.MIN;
    private static final int MAX = Museums.MAX;
    private static final int[] NO_PLACES = {-1, 1, 4, 5, MIN, MAX};

    public static void main(String[] args) {
        placeNumbers();
        placesFull();
        airRefusals();
        airAsItWas();
        airModulo();
        airMissing();
        airNowhere();
        bandRefusals();
        bandEdges();
        keepRefusals();
        fuelNumbers();
        fuelPouredAway();
        spreadTime();
        spreadEight();
        spreadRefusalOrder();
        spreadRoom();
        spreadBand();
        spreadAnother();
        spreadKeep();
        spreadKeepOfAll();
        spreadTies();
        spreadDone();
        moveRefusals();
        moveWhere();
        moveRoom();
        moveFuel();
        weeksRefusals();
        weeksFull();
        harmOfAWeek();
        harmAtMost();
        loseRefusals();
        loseAll();
        foundRefusals();
        foundAgain();
        Check.end();
    }

    private static void refused(String what, MuseumFlight x, int due, ToLongFunction<MuseumFlight> call) {
        Museums.refused(what, x, due, call);
    }

    private static void taken(String what, MuseumFlight x, long due, ToLongFunction<MuseumFlight> call) {
        Museums.taken(what, x, due, call);
    }

    private static void seen(String what, MuseumFlight x, long due, ToLongFunction<MuseumFlight> call) {
        Museums.seen(what, x, due, call);
    }

    private static MuseumFlight[] atAllTimes() {
        return new MuseumFlight[] {Museums.ahead(), Museums.inTheHours(), Museums.inTheYears()};
    }

    // ---- promise 24: "-1 GROUP; -6 room, MILES; -7"; room 1 to 40, GROUP 0 to 3, MILES 1 to 9, 5 at most ----

    private static void placeNumbers() {
        for (MuseumFlight x : atAllTimes()) {
            for (int none : new int[] {-1, 4, MIN, MAX}) {
                refused("24: -1 GROUP " + none, x, -1, y -> y.place(1, none, 1));
                refused("24: -1 ahead of -6 room", x, -1, y -> y.place(0, none, 1));
                refused("24: -1 ahead of -6 MILES", x, -1, y -> y.place(1, none, 10));
            }
            for (int wrong : new int[] {0, 41, -1, MIN, MAX}) {
                refused("24: -6 room " + wrong, x, -6, y -> y.place(wrong, 0, 1));
            }
            for (int wrong : new int[] {0, 10, -1, MIN, MAX}) {
                refused("24: -6 MILES " + wrong, x, -6, y -> y.place(1, 0, wrong));
            }
            taken("24: the least, at any time", x, 1, y -> y.place(1, 0, 1));
            taken("24: the greatest, at any time", x, 2, y -> y.place(40, 3, 9));
            Check.due("24: PLACES", x.status(3), 3);
            Check.due("26: no AIR yet", x.airIn(2, 0), -2);
        }
    }

    private static void placesFull() {
        MuseumFlight x = new MuseumFlight();
        for (int p = 0; p < 5; p++) {
            taken("24: PLACE " + p, x, p, y -> y.place(1, 0, 1));
        }
        refused("24: -7 a 6th PLACE", x, -7, y -> y.place(1, 0, 1));
        refused("24: -6 room ahead of -7", x, -6, y -> y.place(41, 0, 1));
        refused("24: -6 MILES ahead of -7", x, -6, y -> y.place(1, 0, 0));
        refused("24: -1 ahead of -7", x, -1, y -> y.place(1, 4, 1));
        x.row(0, 0, 1);
        taken("24: the 5th PLACE is there", x, 1, y -> y.air(4, 0));
        refused("24: no 6th PLACE", x, -1, y -> y.air(5, 0));
    }

    // ---- promise 25: "-1 either; -2; -3" ----

    private static void airRefusals() {
        for (MuseumFlight x : atAllTimes()) {
            for (int none : NO_PLACES) {
                refused("25: -1 no PLACE " + none, x, -1, y -> y.air(none, 0));
                refused("25: -1 ahead of -2", x, -1, y -> y.air(none, 1));
                refused("25: -1 ahead of -3", x, -1, y -> y.air(none, 3));
            }
            for (int none : new int[] {-1, 8, MIN, MAX}) {
                refused("25: -1 no SHELF " + none, x, -1, y -> y.air(0, none));
                refused("25: -1 neither " + none, x, -1, y -> y.air(9, none));
            }
            refused("25: -2 a THING", x, -2, y -> y.air(0, 1));
            refused("25: -3 NOTHING", x, -3, y -> y.air(0, 3));
            taken("25: its size, at any time", x, 2, y -> y.air(0, 2));
        }
    }

    /** "a ROW that it was given (as it was then)" */
    private static void airAsItWas() {
        MuseumFlight x = Museums.ahead();
        x.set(0, 0, 51);
        seen("25: as it was then", x, 50, y -> y.airIn(0, 0));
        x.row(0, 3, 60);
        seen("25: a new ROW in that SHELF", x, 50, y -> y.airIn(0, 3));
        x.show(0, -1);
        seen("25: NOTHING in that SHELF", x, 99, y -> y.airIn(0, 2));
        taken("25: from now on another ROW", x, 2, y -> y.air(0, 2));
        seen("25: its elements", x, 77, y -> y.airIn(0, 1));
        seen("25: its size", x, 0, y -> y.airIn(0, 2));
        x.place(9, 1, 1);
        taken("25: the same ROW for two", x, 2, y -> y.air(1, 2));
        x.set(2, 1, 78);
        x.air(1, 2);
        seen("25: each has its own", x, 77, y -> y.airIn(0, 1));
        seen("25: each has its own", x, 78, y -> y.airIn(1, 1));
    }

    // ---- promise 26: "in WEEK w element w modulo its size (as an int)" ----

    private static void airModulo() {
        for (int size = 1; size <= 60; size++) {
            MuseumFlight x = new MuseumFlight();
            x.place(1, 0, 1);
            x.row(0, 2, size);
            for (int i = 0; i < size; i++) {
                x.set(0, i, 1000 + i);
            }
            int many = size;
            taken("25: its size " + size, x, size, y -> y.air(0, 0));
            for (int week : new int[] {0, 1, size - 1, size, size + 1, 999, 1000, 1001, MAX - 1, MAX}) {
                seen("26: WEEK " + week + " of " + size, x, 1000 + week % many, y -> y.airIn(0, week));
            }
        }
        MuseumFlight x = new MuseumFlight();
        x.place(1, 0, 1);
        Museums.write(x, 0, 3, 1L << 32, (1L << 31) + 5, -1, Long.MAX_VALUE, (1L << 63) + 1);
        x.air(0, 0);
        int[] ints = {0, MIN + 5, -1, -1, 1};
        for (int w = 0; w < 5; w++) {
            int week = w;
            seen("26: a long as an int", x, ints[w], y -> y.airIn(0, week));
        }
    }

    /** "MISSING if that is the least number of its SORT; MISSING without one, or an empty one" */
    private static void airMissing() {
        long[] least = {-128, -32768, MIN, Long.MIN_VALUE};
        for (int sort = 0; sort < 4; sort++) {
            MuseumFlight x = new MuseumFlight();
            x.place(1, 0, 1);
            seen("26: MISSING without one", x, -2, y -> y.airIn(0, 0));
            Museums.write(x, 0, sort, least[sort], least[sort] + 1, -least[sort] - 1, -1, -2);
            x.air(0, 0);
            int second = (int) (least[sort] + 1);
            int third = (int) (-least[sort] - 1);
            seen("26: the least number of SORT " + sort, x, -2, y -> y.airIn(0, 0));
            seen("26: one more than the least of SORT " + sort, x, second, y -> y.airIn(0, 1));
            seen("26: the greatest of SORT " + sort, x, third, y -> y.airIn(0, 2));
            seen("26: AIR of -1", x, -1, y -> y.airIn(0, 3));
            seen("26: AIR of -2", x, -2, y -> y.airIn(0, 4));
            x.row(1, sort, 0);
            taken("25: an empty one", x, 0, y -> y.air(0, 1));
            seen("26: MISSING of an empty one", x, -2, y -> y.airIn(0, 0));
            seen("26: MISSING of an empty one", x, -2, y -> y.airIn(0, MAX));
        }
        MuseumFlight x = new MuseumFlight();
        x.place(1, 0, 1);
        Museums.write(x, 0, 3, -128, -32768, MIN, 1L << 31);
        x.air(0, 0);
        int[] told = {-128, -32768, MIN, MIN};
        for (int w = 0; w < 4; w++) {
            int week = w;
            seen("26: the least of other SORTS is AIR in longs", x, told[w], y -> y.airIn(0, week));
        }
    }

    /** "NONE: no such PLACE or WEEK"; "(AIR that is -1 or -2 is told likewise; only BANDS tell them apart.)" */
    private static void airNowhere() {
        for (MuseumFlight x : atAllTimes()) {
            for (int none : NO_PLACES) {
                seen("26: no such PLACE " + none, x, -1, y -> y.airIn(none, 0));
                seen("26: neither " + none, x, -1, y -> y.airIn(none, -1));
            }
            for (int none : new int[] {-1, -2, -3, MIN}) {
                seen("26: no such WEEK " + none, x, -1, y -> y.airIn(0, none));
            }
            seen("26: WEEK 0", x, 50, y -> y.airIn(0, 0));
            seen("26: MISSING", x, -2, y -> y.airIn(0, 1));
        }
        MuseumFlight x = Museums.inTheYard(2);
        x.place(9, 0, 1);
        x.place(9, 0, 1);
        x.fuel(10);
        x.move(0, 0);
        x.move(1, 1);
        Museums.giveAir(x, 0, -2);
        Museums.giveAir(x, 1, MIN);
        Check.due("26: AIR of -2 and MISSING are told likewise", x.airIn(0, 0), x.airIn(1, 0));
        x.weeks(1);
        Check.due("26: -2 is 2 from the BAND", x.about(0, 5), 2);
        Check.due("26: MISSING is 5", x.about(1, 5), 5);
    }

    // ---- promise 27: "-1; -6 not 0 <= from <= to <= 100" ----

    private static void bandRefusals() {
        for (MuseumFlight x : atAllTimes()) {
            for (int none : new int[] {-1, 4, MIN, MAX}) {
                refused("27: -1 no KIND " + none, x, -1, y -> y.band(none, 0, 100));
                refused("27: -1 ahead of -6", x, -1, y -> y.band(none, 5, 4));
            }
            int[][] wrong = {{-1, 50}, {MIN, 50}, {51, 50}, {100, 99}, {1, 0}, {0, 101}, {101, 101}, {0, MAX}, {MAX, MIN}, {-1, -1}, {MAX, MAX}};
            for (int[] w : wrong) {
                refused("27: -6 " + w[0] + " to " + w[1], x, -6, y -> y.band(0, w[0], w[1]));
            }
            for (int kind = 0; kind < 4; kind++) {
                int k = kind;
                taken("27: from 0 to 0", x, 1, y -> y.band(k, 0, 0));
                taken("27: from 100 to 100", x, 1, y -> y.band(k, 100, 100));
                taken("27: from 0 to 100", x, 1, y -> y.band(k, 0, 100));
            }
        }
    }

    private static int harm(int from, int to, int air) {
        MuseumFlight x = Museums.inTheYard(1);
        x.place(9, 0, 1);
        x.fuel(10);
        x.move(0, 0);
        x.band(0, from, to);
        x.band(1, 50, 50);
        x.band(0, -1, 3);
        x.band(0, 4, 3);
        x.band(0, 4, 101);
        Museums.giveAir(x, 0, air);
        x.weeks(1);
        return x.about(0, 5);
    }

    /** How far AIR is from its BAND, at and about both ends; refused BANDS and those of other KINDS leave it. */
    private static void bandEdges() {
        int[][] bands = {{0, 100}, {0, 0}, {100, 100}, {40, 60}, {50, 50}};
        for (int[] b : bands) {
            for (int away = 0; away <= 2; away++) {
                Check.due("27: below " + b[0], harm(b[0], b[1], b[0] - away), away);
                Check.due("27: above " + b[1], harm(b[0], b[1], b[1] + away), away);
            }
            Check.due("27: between", harm(b[0], b[1], (b[0] + b[1]) / 2), 0);
        }
    }

    // ---- promise 28: "what it was. -1; -6"; "(0 to 9; 0 at first)" ----

    private static void keepRefusals() {
        for (MuseumFlight x : atAllTimes()) {
            for (int none : new int[] {-1, 4, MIN, MAX}) {
                refused("28: -1 no KIND " + none, x, -1, y -> y.keep(none, 1));
                refused("28: -1 ahead of -6", x, -1, y -> y.keep(none, 10));
            }
            for (int kind = 0; kind < 4; kind++) {
                int k = kind;
                taken("28: 0 at first", x, 0, y -> y.keep(k, 9));
                for (int wrong : new int[] {-1, 10, MIN, MAX}) {
                    refused("28: -6 " + wrong, x, -6, y -> y.keep(k, wrong));
                }
                taken("28: what it was, behind refusals", x, 9, y -> y.keep(k, 0));
                taken("28: what it was", x, 0, y -> y.keep(k, 1 + k));
            }
            for (int kind = 0; kind < 4; kind++) {
                int k = kind;
                taken("28: each KIND its own", x, 1 + k, y -> y.keep(k, 0));
            }
        }
    }

    // ---- promise 29: "FUEL grows by n (0 to 10,000)"; "what is above 1,000,000 is poured away" ----

    private static void fuelNumbers() {
        for (MuseumFlight x : atAllTimes()) {
            int there = x.status(20);
            for (int wrong : new int[] {-1, 10001, MIN, MAX}) {
                refused("29: -6 " + wrong, x, -6, y -> y.fuel(wrong));
            }
            taken("29: 0", x, there, y -> y.fuel(0));
            taken("29: 1", x, there + 1, y -> y.fuel(1));
            taken("29: 10,000", x, there + 10001, y -> y.fuel(10000));
            Check.due("29: what there is", x.status(20), there + 10001);
        }
    }

    private static void fuelPouredAway() {
        MuseumFlight x = new MuseumFlight();
        for (int i = 1; i <= 99; i++) {
            int n = i;
            taken("29: it grows", x, 10000 * n, y -> y.fuel(10000));
        }
        taken("29: 1 below 1,000,000", x, 999999, y -> y.fuel(9999));
        taken("29: 1,000,000", x, 1000000, y -> y.fuel(1));
        taken("29: poured away", x, 1000000, y -> y.fuel(1));
        taken("29: poured away", x, 1000000, y -> y.fuel(10000));
        Check.due("29: what there is", x.status(20), 1000000);
    }

    // ---- promise 30 ----

    private static void spreadTime() {
        for (boolean move : new boolean[] {false, true}) {
            refused("30: -6 ahead of the ALARM", Museums.ahead(), -6, y -> y.spread(move));
            refused("30: -6 in the HOURS", Museums.inTheHours(), -6, y -> y.spread(move));
        }
    }

    /** THINGS in the YARD, and two PLACES of room 40 with AIR 50: MILES 1 and 9, GROUPS 0 and 1. */
    private static MuseumFlight twoPlaces(int many) {
        MuseumFlight x = Museums.inTheYard(many);
        x.place(40, 0, 1);
        x.place(40, 1, 9);
        Museums.giveAir(x, 0, 50);
        Museums.giveAir(x, 1, 50);
        return x;
    }

    /** "-7 more than 8 THINGS would be given PLACES" */
    private static void spreadEight() {
        seen("30: 8 THINGS", twoPlaces(8), 8, y -> y.spread(false));
        refused("30: -7 9 THINGS", twoPlaces(9), -7, y -> y.spread(false));
        refused("30: -7 16 THINGS", twoPlaces(16), -7, y -> y.spread(true));
        MuseumFlight x = twoPlaces(16);
        x.fuel(1000);
        for (int i = 0; i < 8; i++) {
            x.move(i, 1);
        }
        seen("30: 8 in the YARD, 8 well in PLACES", x, 8, y -> y.spread(false));
        Museums.giveAir(x, 1, 101);
        refused("30: -7 those in PLACES are given others, too", x, -7, y -> y.spread(false));
        Museums.giveAir(x, 1, MIN);
        refused("30: -7 MISSING, too", x, -7, y -> y.spread(false));
        Museums.giveAir(x, 1, 100);
        taken("30: 8", x, 8, y -> y.spread(true));
        seen("30: none is given a PLACE", x, 0, y -> y.spread(false));
        x = Museums.inTheYard(0);
        taken("30: of nothing", x, 0, y -> y.spread(true));
    }

    /** "-7 more than 8 ..; then -6 there is no SPREAD; -7 (move) FUEL isn't enough" */
    private static void spreadRefusalOrder() {
        refused("30: -7 of nine, ahead of -6 no SPREAD", Museums.inTheYard(9), -7, y -> y.spread(true));
        refused("30: -6 no SPREAD: no PLACES", Museums.inTheYard(8), -6, y -> y.spread(false));
        refused("30: -6 no SPREAD, ahead of -7 FUEL", Museums.inTheYard(8), -6, y -> y.spread(true));
        MuseumFlight x = twoPlaces(3);
        seen("30: without move no FUEL is asked for", x, 3, y -> y.spread(false));
        refused("30: -7 FUEL 0 of 3", x, -7, y -> y.spread(true));
        x.fuel(2);
        refused("30: -7 FUEL 2 of 3", x, -7, y -> y.spread(true));
        x.fuel(1);
        taken("30: FUEL 3 of 3", x, 3, y -> y.spread(true));
        Check.due("30: FUEL left", x.status(20), 0);
        taken("30: nothing to do costs nothing", x, 0, y -> y.spread(true));
    }

    /** "so that no PLACE has more HANDS than room" */
    private static void spreadRoom() {
        for (int room = 1; room <= 9; room++) {
            MuseumFlight x = Museums.inTheYard(new int[] {0, 1}, new int[] {3, 4});
            x.place(room, 0, 1);
            Museums.giveAir(x, 0, 50);
            int fits = room;
            if (room < 7) {
                refused("30: room " + fits + " for 7", x, -6, y -> y.spread(false));
            } else {
                seen("30: room " + fits + " for 7", x, 7, y -> y.spread(false));
            }
        }
        MuseumFlight x = Museums.inTheYard(new int[] {0, 1, 2}, new int[] {3, 4, 1});
        x.place(7, 0, 1);
        Museums.giveAir(x, 0, 50);
        x.fuel(100);
        x.move(0, 0);
        refused("30: what stays takes room", x, -6, y -> y.spread(false));
        x.paper(0, 1, 0, 0);
        x.giveBack(0, 0);
        seen("30: what was given back takes none", x, 5, y -> y.spread(false));
        x.move(1, 0);
        x.move(2, 0);
        x.lose(0);
        x.found(1);
        seen("30: what is LOST takes none, and is given none", x, 4, y -> y.spread(false));
    }

    /** "in a PLACE whose AIR in the WEEK is MISSING or not in its BAND", "a PLACE whose AIR is in its BAND" */
    private static void spreadBand() {
        int[][] cases = {{39, 0}, {40, 1}, {41, 1}, {59, 1}, {60, 1}, {61, 0}, {MIN, 0}, {MAX, 0}, {MIN + 1, 0}, {-1, 0}, {-2, 0}};
        for (int[] c : cases) {
            MuseumFlight x = Museums.inTheYard(1);
            x.band(0, 40, 60);
            x.place(9, 0, 2);
            Museums.giveAir(x, 0, c[0]);
            if (c[1] == 0) {
                refused("30: no PLACE with AIR " + c[0], x, -6, y -> y.spread(false));
            } else {
                seen("30: a PLACE with AIR " + c[0], x, 2, y -> y.spread(false));
            }
            x.place(9, 0, 3);
            Museums.giveAir(x, 1, 50);
            x.fuel(2);
            x.move(0, 0);
            seen("30: in a PLACE with AIR " + c[0], x, c[1] == 1 ? 0 : 5, y -> y.spread(false));
        }
        MuseumFlight x = Museums.inTheYard(1);
        x.place(9, 0, 2);
        Museums.giveAir(x, 0, MIN, 50, 101);
        refused("30: WEEK 0: MISSING", x, -6, y -> y.spread(false));
        x.weeks(1);
        seen("30: WEEK 1: in its BAND", x, 2, y -> y.spread(false));
        x.weeks(1);
        refused("30: WEEK 2: not in its BAND", x, -6, y -> y.spread(false));
        x.weeks(2);
        seen("30: WEEK 4 is as WEEK 1", x, 2, y -> y.spread(false));
    }

    /** "(another one than its own)", "of PLACE to PLACE both MILES" */
    private static void spreadAnother() {
        MuseumFlight x = Museums.inTheYard(new int[] {0}, new int[] {4});
        x.place(4, 0, 2);
        x.fuel(100);
        x.move(0, 0);
        Museums.giveAir(x, 0, 101);
        refused("30: no other PLACE", x, -6, y -> y.spread(false));
        x.place(4, 0, 3);
        refused("30: the other's AIR is MISSING", x, -6, y -> y.spread(false));
        Museums.giveAir(x, 1, 50);
        taken("30: HANDS times both MILES", x, 4 * (2 + 3), y -> y.spread(true));
        Check.due("30: FUEL left", x.status(20), 100 - 8 - 20);
        Check.due("30: where", x.about(0, 0), 401);
    }

    /** "for each GROUP and KIND: as many THINGS of that KIND as KEEP tells, or more, are in PLACES of other GROUPS" */
    private static void spreadKeep() {
        for (int keep = 0; keep <= 9; keep++) {
            MuseumFlight x = twoPlaces(4);
            x.keep(0, keep);
            int apart = Math.max(keep, 0);
            if (keep <= 2) {
                seen("30: KEEP " + keep + " of 4", x, 4 - apart + 9 * apart, y -> y.spread(false));
            } else {
                refused("30: KEEP " + keep + " of 4 in two GROUPS", x, -6, y -> y.spread(false));
            }
        }
        MuseumFlight x = twoPlaces(3);
        x.keep(0, 1);
        seen("30: 1 of 3 elsewhere", x, 1 + 1 + 9, y -> y.spread(false));
        x.fuel(18);
        x.move(1, 1);
        x.move(2, 1);
        seen("30: those that stay count", x, 1, y -> y.spread(false));
        x.keep(0, 2);
        refused("30: 2 of 3 elsewhere can't be in two GROUPS", x, -6, y -> y.spread(false));
        x.place(9, 2, 9);
        Museums.giveAir(x, 2, 50);
        refused("30: two stay in GROUP 1", x, -6, y -> y.spread(false));
        x.fuel(100);
        x.move(1, 2);
        seen("30: one each in three GROUPS", x, 1, y -> y.spread(false));
        x.keep(1, 1);
        refused("30: a KIND of which there is none", x, -6, y -> y.spread(false));
    }

    /** KEEP is asked for when nothing is moved, too, and of what is in PLACES alone. */
    private static void spreadKeepOfAll() {
        MuseumFlight x = twoPlaces(2);
        x.fuel(100);
        x.move(0, 0);
        x.move(1, 0);
        seen("30: nothing to move", x, 0, y -> y.spread(false));
        x.keep(0, 1);
        refused("30: both are in one GROUP", x, -6, y -> y.spread(true));
        x.move(1, 1);
        taken("30: one elsewhere", x, 0, y -> y.spread(true));
        x.lose(1);
        refused("30: what is LOST isn't elsewhere", x, -6, y -> y.spread(false));
        x.found(1);
        taken("30: it is found", x, 9, y -> y.spread(true));
        x.paper(1, 3, 5, 5);
        x.giveBack(1, 5);
        refused("30: what was given back isn't elsewhere", x, -6, y -> y.spread(false));
        x.keep(0, 0);
        taken("30: nothing is kept", x, 0, y -> y.spread(true));
    }

    /** "that in which the first of these THINGS has the lesser PLACE, then the second, and so on" */
    private static void spreadTies() {
        MuseumFlight x = Museums.inTheYard(3);
        for (int p = 0; p < 5; p++) {
            x.place(1, 0, 4);
            Museums.giveAir(x, p, 50);
        }
        x.fuel(100);
        taken("30: of like FUEL", x, 12, y -> y.spread(true));
        for (int i = 0; i < 3; i++) {
            Check.due("30: the lesser PLACES in turn", x.about(i, 0), 400 + i);
        }
        Museums.giveAir(x, 1, 101);
        taken("30: THING 1 alone is given one", x, 8, y -> y.spread(true));
        Check.due("30: the lesser one that is free", x.about(1, 0), 403);
        Museums.giveAir(x, 1, 50);
        Museums.giveAir(x, 0, 101);
        Museums.giveAir(x, 2, 101);
        taken("30: THINGS 0 and 2", x, 16, y -> y.spread(true));
        Check.due("30: the first has the lesser", x.about(0, 0), 401);
        Check.due("30: the second has the next", x.about(2, 0), 404);
        x = twoPlaces(2);
        x.place(40, 0, 1);
        Museums.giveAir(x, 2, 50);
        x.fuel(100);
        taken("30: least FUEL ahead of lesser PLACES", x, 2, y -> y.spread(true));
        Check.due("30: PLACE 0", x.about(0, 0), 400);
        Check.due("30: PLACE 0", x.about(1, 0), 400);
    }

    /** "with move true it is done (THINGS in order of their numbers)" */
    private static void spreadDone() {
        MuseumFlight x = Museums.inTheYard(new int[] {0, 0}, new int[] {4, 3});
        x.place(4, 0, 1);
        x.place(4, 0, 2);
        x.fuel(100);
        x.move(0, 0);
        x.move(1, 1);
        x.band(1, 0, 0);
        Museums.giveAir(x, 0, 50, 101);
        Museums.giveAir(x, 1, 50, 101);
        x.weeks(1);
        x.place(4, 0, 3);
        x.place(4, 0, 9);
        Museums.giveAir(x, 2, 50);
        Museums.giveAir(x, 3, 50);
        int before = x.status(20);
        int cost = Math.min(4 * (1 + 3) + 3 * (2 + 9), 4 * (1 + 9) + 3 * (2 + 3));
        taken("30: both are moved", x, cost, y -> y.spread(true));
        Check.due("30: FUEL left", x.status(20), before - cost);
        int[] to = {402, 403};
        for (int i = 0; i < 2; i++) {
            Check.due("30: SEALS", x.about(i, 6), 4);
            Check.due("30: TIME", x.seal(i, 3, 0), 1001);
            Check.due("30: where it was", x.seal(i, 3, 1), 400 + i);
            Check.due("30: where it is", x.seal(i, 3, 2), to[i]);
        }
        MuseumFlight swap = Museums.inTheYard(new int[] {0, 1}, new int[] {4, 4});
        swap.place(4, 0, 1);
        swap.place(4, 0, 1);
        swap.fuel(100);
        swap.move(0, 0);
        swap.move(1, 1);
        swap.band(0, 80, 90);
        swap.band(1, 10, 20);
        Museums.giveAir(swap, 0, 15);
        Museums.giveAir(swap, 1, 85);
        taken("30: two change PLACES, though both are full", swap, 16, y -> y.spread(true));
        Check.due("30: the first", swap.about(0, 0), 401);
        Check.due("30: the second", swap.about(1, 0), 400);
    }

    // ---- promise 31: "-1; -6 not in the YEARS, not there, this PLACE already, no room; -7 FUEL" ----

    private static void moveRefusals() {
        for (MuseumFlight x : atAllTimes()) {
            for (int none : new int[] {-1, 3, 16, MIN, MAX}) {
                refused("31: -1 no THING " + none, x, -1, y -> y.move(none, 0));
                refused("31: -1 neither " + none, x, -1, y -> y.move(none, 7));
            }
            for (int none : NO_PLACES) {
                for (int i = 0; i < 3; i++) {
                    int thing = i;
                    refused("31: -1 no PLACE " + none, x, -1, y -> y.move(thing, none));
                }
            }
        }
        for (int i = 0; i < 3; i++) {
            int thing = i;
            refused("31: -6 ahead of the ALARM", Museums.ahead(), -6, y -> y.move(thing, 0));
            refused("31: -6 in the HOURS", Museums.inTheHours(), -6, y -> y.move(thing, 0));
        }
        MuseumFlight x = Museums.inTheHours();
        x.fuel(100);
        x.minutes(1);
        Check.due("31: THING 0 is in the YARD", x.about(0, 0), 300);
        refused("31: -6 in the HOURS, in the YARD", x, -6, y -> y.move(0, 0));
    }

    private static void moveWhere() {
        MuseumFlight x = Museums.inTheYears();
        refused("31: -6 this PLACE already", x, -6, y -> y.move(0, 0));
        refused("31: -6 LOST", x, -6, y -> y.move(2, 0));
        taken("31: in the YARD", x, 100 - 2 - 4, y -> y.move(1, 0));
        x.giveBack(0, 15);
        refused("31: -6 given back", x, -6, y -> y.move(0, 0));
        x.place(9, 3, 9);
        refused("31: -6 given back, to another PLACE", x, -6, y -> y.move(0, 1));
        taken("31: in a PLACE", x, 94 - 2 * (2 + 9), y -> y.move(1, 1));
        x.found(2);
        taken("31: found", x, 72 - 9, y -> y.move(2, 1));
        Check.due("31: SEALS", x.about(1, 6), 4);
        Check.due("31: where it was", x.seal(1, 3, 1), 400);
        Check.due("31: where it is", x.seal(1, 3, 2), 401);
        Check.due("31: TIME", x.seal(1, 3, 0), 1000);
    }

    /** "no room": HANDS of all that is there, and its own */
    private static void moveRoom() {
        for (int room = 1; room <= 6; room++) {
            MuseumFlight x = Museums.inTheYard(new int[] {0, 1}, new int[] {1, 4});
            x.place(room, 0, 1);
            x.fuel(100);
            taken("31: room for one", x, 99, y -> y.move(0, 0));
            if (room < 5) {
                refused("31: -6 no room, with " + room, x, -6, y -> y.move(1, 0));
            } else {
                taken("31: room, with " + room, x, 95, y -> y.move(1, 0));
            }
        }
        MuseumFlight x = Museums.inTheYard(new int[] {0, 1}, new int[] {4, 4});
        x.place(4, 0, 1);
        x.place(40, 0, 1);
        x.fuel(20);
        x.move(0, 0);
        refused("31: -6 no room", x, -6, y -> y.move(1, 0));
        x.move(0, 1);
        taken("31: room again", x, 20 - 4 - 8 - 4, y -> y.move(1, 0));
        MuseumFlight full = Museums.inTheYard(new int[10], new int[] {4, 4, 4, 4, 4, 4, 4, 4, 4, 4});
        full.place(40, 0, 1);
        full.fuel(100);
        for (int i = 0; i < 10; i++) {
            int thing = i;
            taken("31: room for 40", full, 96 - 4 * i, y -> y.move(thing, 0));
        }
    }

    private static void moveFuel() {
        MuseumFlight x = Museums.inTheYard(new int[] {0}, new int[] {4});
        x.place(4, 0, 9);
        x.place(3, 0, 9);
        x.place(4, 0, 8);
        refused("31: -6 no room ahead of -7", x, -6, y -> y.move(0, 1));
        refused("31: -7 FUEL 0 of 36", x, -7, y -> y.move(0, 0));
        x.fuel(35);
        refused("31: -7 FUEL 35 of 36", x, -7, y -> y.move(0, 0));
        x.fuel(1);
        taken("31: FUEL 36 of 36", x, 0, y -> y.move(0, 0));
        refused("31: -6 this PLACE already, ahead of -7", x, -6, y -> y.move(0, 0));
        x.fuel(67);
        refused("31: -7 FUEL 67 of both MILES, 68", x, -7, y -> y.move(0, 2));
        x.fuel(2);
        taken("31: FUEL 69 of 68", x, 1, y -> y.move(0, 2));
    }

    // ---- promise 32: "-6 n not 1 to 60, not in the YEARS; -7 more than 1,000" ----

    private static void weeksRefusals() {
        for (int wrong : new int[] {0, 61, -1, MIN, MAX}) {
            for (MuseumFlight x : atAllTimes()) {
                refused("32: -6 n " + wrong, x, -6, y -> y.weeks(wrong));
            }
        }
        for (int n : new int[] {1, 60}) {
            int many = n;
            refused("32: -6 ahead of the ALARM", Museums.ahead(), -6, y -> y.weeks(many));
            refused("32: -6 in the HOURS", Museums.inTheHours(), -6, y -> y.weeks(many));
            taken("32: " + n + " WEEKS", Museums.inTheYears(), n, y -> y.weeks(many));
        }
    }

    private static void weeksFull() {
        MuseumFlight x = Museums.inTheYears();
        for (int i = 1; i <= 16; i++) {
            x.weeks(60);
        }
        Check.due("32: WEEK 960", x.status(19), 960);
        for (int n = 41; n <= 60; n++) {
            int many = n;
            refused("32: -7 more than 1,000, by " + (n - 40), x, -7, y -> y.weeks(many));
        }
        refused("32: -6 ahead of -7", x, -6, y -> y.weeks(61));
        taken("32: 999", x, 999, y -> y.weeks(39));
        refused("32: -7 1,001", x, -7, y -> y.weeks(2));
        taken("32: 1,000", x, 1000, y -> y.weeks(1));
        refused("32: -7 1,001", x, -7, y -> y.weeks(1));
        Check.due("32: TIME in WEEK 1,000", x.found(2), 1);
        Check.due("32: TIME in WEEK 1,000", x.seal(2, 1, 0), 2000);
        Check.due("32: HARM of 1,000 WEEKS in the YARD", x.about(1, 5), 10000);
    }

    /** "As a WEEK is lived each THING's HARM grows: in the YARD by 10, in a PLACE by how far AIR of that WEEK is ..." */
    private static void harmOfAWeek() {
        MuseumFlight x = Museums.inTheYears();
        x.band(0, 20, 30);
        Check.due("32: no HARM at first", x.about(0, 5), 0);
        x.weeks(1);
        Check.due("32: AIR of WEEK 0, 50", x.about(0, 5), 20);
        x.weeks(1);
        Check.due("32: AIR of WEEK 1, MISSING", x.about(0, 5), 25);
        x.weeks(1);
        Check.due("32: AIR of WEEK 2, 99", x.about(0, 5), 94);
        x.weeks(3);
        Check.due("32: AIR of WEEKS 3 to 5", x.about(0, 5), 188);
        Check.due("32: in the YARD", x.about(1, 5), 60);
        Check.due("32: LOST", x.about(2, 5), 0);
        x.giveBack(0, 12);
        x.lose(0);
        x.weeks(2);
        Check.due("32: given back", x.about(0, 5), 188);
        Check.due("32: in the YARD", x.about(1, 5), 80);
        MuseumFlight z = Museums.inTheYears();
        z.band(0, 20, 30);
        z.weeks(6);
        Check.due("32: six WEEKS at once", z.about(0, 5), 188);
    }

    /** "(100 at most; MISSING: 5)" */
    private static void harmAtMost() {
        int[][] cases = {{199, 99}, {200, 100}, {201, 100}, {MAX, 100}, {-99, 99}, {-100, 100}, {-101, 100}, {MIN + 1, 100}, {MIN, 5}};
        for (int[] c : cases) {
            Check.due("32: HARM by AIR " + c[0], harm(0, 100, c[0]), c[1]);
        }
        Check.due("32: from a BAND of 100, AIR MIN + 1", harm(100, 100, MIN + 1), 100);
        Check.due("32: from a BAND of 0, AIR MAX", harm(0, 0, MAX), 100);
    }

    // ---- promise 33: "-1; -6 not in the YEARS" ----

    private static void loseRefusals() {
        for (int none : new int[] {-1, 4, MIN, MAX}) {
            for (MuseumFlight x : atAllTimes()) {
                refused("33: -1 no GROUP " + none, x, -1, y -> y.lose(none));
            }
        }
        for (int group = 0; group < 4; group++) {
            int g = group;
            refused("33: -6 ahead of the ALARM", Museums.ahead(), -6, y -> y.lose(g));
            refused("33: -6 in the HOURS", Museums.inTheHours(), -6, y -> y.lose(g));
            taken("33: in the YEARS", Museums.inTheYears(), g == 0 ? 1 : 0, y -> y.lose(g));
        }
    }

    private static void loseAll() {
        MuseumFlight x = Museums.inTheYard(16);
        for (int p = 0; p < 5; p++) {
            x.place(4, p % 4, 1);
        }
        x.fuel(100);
        for (int i = 0; i < 16; i++) {
            x.move(i, i % 5);
        }
        taken("33: GROUP 0, of two PLACES", x, 4 + 3, y -> y.lose(0));
        taken("33: struck again, now empty", x, 0, y -> y.lose(0));
        taken("33: GROUP 3", x, 3, y -> y.lose(3));
        Check.due("33: LOST", x.status(8), 10);
        Check.due("33: in PLACES still", x.status(7), 6);
        Check.due("33: PLACES", x.status(3), 5);
        for (int i = 0; i < 16; i++) {
            boolean lost = i % 5 == 0 || i % 5 >= 3;
            Check.due("33: where", x.about(i, 0), lost ? 500 : 400 + i % 5);
            Check.due("33: SEALS", x.about(i, 6), lost ? 4 : 3);
        }
    }

    // ---- promise 34: "-1; -6 not in the YEARS, not LOST" ----

    private static void foundRefusals() {
        for (MuseumFlight x : atAllTimes()) {
            for (int none : new int[] {-1, 3, 16, MIN, MAX}) {
                refused("34: -1 no THING " + none, x, -1, y -> y.found(none));
            }
        }
        for (int i = 0; i < 3; i++) {
            int thing = i;
            refused("34: -6 ahead of the ALARM", Museums.ahead(), -6, y -> y.found(thing));
            refused("34: -6 in the HOURS", Museums.inTheHours(), -6, y -> y.found(thing));
        }
        MuseumFlight x = Museums.inTheYears();
        refused("34: -6 in a PLACE", x, -6, y -> y.found(0));
        refused("34: -6 in the YARD", x, -6, y -> y.found(1));
        x.giveBack(0, 12);
        refused("34: -6 given back", x, -6, y -> y.found(0));
    }

    private static void foundAgain() {
        MuseumFlight x = Museums.inTheYears();
        x.weeks(7);
        taken("34: LOST at END", x, 1, y -> y.found(2));
        Check.due("34: in the YARD", x.about(2, 0), 300);
        Check.due("34: TIME", x.seal(2, 1, 0), 1007);
        Check.due("34: where it was", x.seal(2, 1, 1), 500);
        Check.due("34: where it is", x.seal(2, 1, 2), 300);
        refused("34: -6 found already", x, -6, y -> y.found(2));
        x.weeks(1);
        Check.due("34: HARM in the YARD", x.about(2, 5), 10);
        x.lose(0);
        taken("34: LOST in a PLACE", x, 1, y -> y.found(0));
    }
}
