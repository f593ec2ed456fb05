/** Promises 24 to 34: THE YEARS. */
public final class YearsTest {
    public static void main(String[] args) {
        places();
        airs();
        bands();
        keeps();
        fuels();
        harm();
        moves();
        spreads();
        spreadKeeps();
        spreadLast();
        spreadTies();
        spreadRefusals();
        weeks();
        losses();
        Check.end();
    }

    /** Things of some kinds and hands, all in the YARD as the YEARS begin. */
    static MuseumFlight inTheYard(int[] kinds, int[] hands) {
        MuseumFlight x = new MuseumFlight();
        x.door(0, 1, 1);
        x.team(4);
        for (int i = 0; i < kinds.length; i++) {
            x.thing(kinds[i], 1, hands[i], 1, 0);
        }
        x.alarm(240);
        x.minutes(240);
        return x;
    }

    static void giveAir(MuseumFlight x, int place, int sort, long... air) {
        x.row(7, sort, air.length);
        for (int i = 0; i < air.length; i++) {
            x.set(7, i, air[i]);
        }
        x.air(place, 7);
    }

    /** Promise 24. */
    private static void places() {
        MuseumFlight x = new MuseumFlight();
        Check.due("place group -1", x.place(1, -1, 1), -1);
        Check.due("place group 4", x.place(0, 4, 0), -1);
        Check.due("place 0 hands", x.place(0, 0, 1), -6);
        Check.due("place 41 hands", x.place(41, 0, 1), -6);
        Check.due("place 0 miles", x.place(1, 0, 0), -6);
        Check.due("place 10 miles", x.place(1, 0, 10), -6);
        Check.due("place", x.place(40, 3, 9), 0);
        Check.due("place", x.place(1, 0, 1), 1);
        x.alarm(2);
        Check.due("place in the HOURS", x.place(1, 0, 1), 2);
        x.minutes(2);
        Check.due("place in the YEARS", x.place(1, 0, 1), 3);
        Check.due("place", x.place(1, 0, 1), 4);
        Check.due("place 5", x.place(1, 0, 1), -7);
        Check.due("place wrong ahead of room", x.place(0, 0, 1), -6);
        Check.due("places", x.status(3), 5);
    }

    /** Promises 25 and 26. */
    private static void airs() {
        MuseumFlight x = new MuseumFlight();
        x.place(5, 0, 1);
        x.thing(0, 1, 1, 1, 0);
        x.show(1, 0);
        x.row(0, 0, 3);
        Check.due("air of no PLACE", x.air(1, 0), -1);
        Check.due("air of PLACE -1", x.air(-1, 0), -1);
        Check.due("air of SHELF 8", x.air(0, 8), -1);
        Check.due("air of SHELF -1", x.air(0, -1), -1);
        Check.due("air of a THING", x.air(0, 1), -2);
        Check.due("air of nothing", x.air(0, 2), -3);
        Check.due("no AIR yet", x.airIn(0, 0), -2);
        x.set(0, 0, 5);
        x.set(0, 1, -128);
        x.set(0, 2, -127);
        Check.due("air", x.air(0, 0), 3);
        x.set(0, 0, 6);
        Check.due("as it was then", x.airIn(0, 0), 5);
        Check.due("MISSING", x.airIn(0, 1), -2);
        Check.due("not the least", x.airIn(0, 2), -127);
        Check.due("modulo", x.airIn(0, 3), 5);
        Check.due("far on", x.airIn(0, Integer.MAX_VALUE), MISSING_OR(x, Integer.MAX_VALUE % 3));
        Check.due("no WEEK", x.airIn(0, -1), -1);
        Check.due("no PLACE", x.airIn(1, 0), -1);
        Check.due("no PLACE", x.airIn(-1, 0), -1);
        long[] least = {-128, -32768, Integer.MIN_VALUE, Long.MIN_VALUE};
        for (int sort = 0; sort < 4; sort++) {
            for (int other = 0; other < 4; other++) {
                if (other <= sort) {
                    giveAir(x, 0, sort, least[other]);
                    Check.due("least of sort " + other + " in " + sort, x.airIn(0, 0), other == sort ? -2 : (int) least[other]);
                }
            }
        }
        giveAir(x, 0, 3, (1L << 32) + 77, Long.MIN_VALUE + 5);
        Check.due("longs as ints", x.airIn(0, 0), 77);
        Check.due("not MISSING", x.airIn(0, 1), 5);
        giveAir(x, 0, 1, -1, -2);
        Check.due("AIR of -1", x.airIn(0, 0), -1);
        Check.due("AIR of -2", x.airIn(0, 1), -2);
        x.row(3, 1, 0);
        Check.due("an empty row", x.air(0, 3), 0);
        Check.due("MISSING", x.airIn(0, 9), -2);
        Check.due("refused nobody", x.status(11), 4);
    }

    private static int MISSING_OR(MuseumFlight x, int week) {
        return x.airIn(0, week);
    }

    /** Promise 27. */
    private static void bands() {
        MuseumFlight x = inTheYard(new int[] {2}, new int[] {1});
        Check.due("band kind -1", x.band(-1, 5, 4), -1);
        Check.due("band kind 4", x.band(4, 0, 1), -1);
        Check.due("band from -1", x.band(2, -1, 50), -6);
        Check.due("band to 101", x.band(2, 0, 101), -6);
        Check.due("band turned", x.band(2, 51, 50), -6);
        x.place(4, 0, 1);
        x.fuel(10);
        x.move(0, 0);
        giveAir(x, 0, 1, 101, 100, 0, -1);
        for (int w = 0; w < 4; w++) {
            x.weeks(1);
            Check.due("the first BAND is 0 to 100", x.about(0, 5), w < 3 ? 1 : 2);
        }
        Check.due("band", x.band(2, 50, 50), 1);
        Check.due("band of another", x.band(1, 0, 0), 1);
        giveAir(x, 0, 1, 50);
        x.weeks(1);
        Check.due("in the BAND", x.about(0, 5), 2);
        giveAir(x, 0, 1, 49);
        x.weeks(1);
        Check.due("below the BAND", x.about(0, 5), 3);
        Check.due("band all", x.band(2, 0, 100), 1);
        x.weeks(1);
        Check.due("in the BAND", x.about(0, 5), 3);
    }

    /** Promise 28. */
    private static void keeps() {
        MuseumFlight x = new MuseumFlight();
        Check.due("keep kind -1", x.keep(-1, 10), -1);
        Check.due("keep kind 4", x.keep(4, 1), -1);
        Check.due("keep -1", x.keep(0, -1), -6);
        Check.due("keep 10", x.keep(0, 10), -6);
        Check.due("keep was", x.keep(0, 9), 0);
        Check.due("keep was", x.keep(0, 0), 9);
        Check.due("keep of another", x.keep(3, 2), 0);
        Check.due("keep was", x.keep(0, 1), 0);
        Check.due("keep was", x.keep(3, 1), 2);
    }

    /** Promise 29. */
    private static void fuels() {
        MuseumFlight x = new MuseumFlight();
        Check.due("fuel -1", x.fuel(-1), -6);
        Check.due("fuel 10001", x.fuel(10001), -6);
        Check.due("fuel 0", x.fuel(0), 0);
        Check.due("fuel 10000", x.fuel(10000), 10000);
        Check.due("fuel 1", x.fuel(1), 10001);
        Check.due("status", x.status(20), 10001);
        for (int i = 0; i < 98; i++) {
            x.fuel(10000);
        }
        Check.due("fuel", x.fuel(9998), 999999);
        Check.due("poured away", x.fuel(2), 1000000);
        Check.due("poured away", x.fuel(10000), 1000000);
    }

    /** Promise 32: HARM. */
    private static void harm() {
        MuseumFlight x = inTheYard(new int[] {0, 0, 1, 1}, new int[] {1, 1, 1, 1});
        x.place(9, 0, 1);
        x.place(9, 1, 1);
        x.fuel(100);
        x.move(1, 0);
        x.move(2, 1);
        x.band(0, 40, 60);
        x.band(1, 20, 30);
        giveAir(x, 0, 2, 30, 61, 40, Integer.MIN_VALUE, Integer.MAX_VALUE, 160, 161, -60, -61, Integer.MIN_VALUE + 1);
        int[] grows = {10, 1, 0, 5, 100, 100, 100, 100, 100, 100, 10};
        int sum = 0;
        for (int w = 0; w < grows.length; w++) {
            x.weeks(1);
            sum += grows[w];
            Check.due("HARM in a PLACE, week " + w, x.about(1, 5), sum);
            Check.due("HARM in the YARD, week " + w, x.about(0, 5), 10 * (w + 1));
            Check.due("HARM without AIR, week " + w, x.about(2, 5), 5 * (w + 1));
        }
        x.lose(1);
        x.paper(0, 1, 0, 0);
        x.giveBack(0, 0);
        x.weeks(5);
        Check.due("no HARM when LOST", x.about(2, 5), 55);
        Check.due("no HARM when given back", x.about(0, 5), 110);
        Check.due("HARM in the YARD", x.about(3, 5), 160);
        MuseumFlight y = new MuseumFlight();
        y.thing(0, 1, 1, 1, 0);
        y.alarm(5);
        y.minutes(5);
        y.weeks(3);
        Check.due("no HARM when LOST", y.about(0, 5), 0);
    }

    /** Promise 31. */
    private static void moves() {
        MuseumFlight x = new MuseumFlight();
        x.thing(0, 1, 1, 1, 0);
        x.place(9, 0, 1);
        x.fuel(50);
        Check.due("move ahead of the ALARM", x.move(0, 0), -6);
        x = inTheYard(new int[] {0, 0, 1}, new int[] {2, 3, 1});
        x.place(4, 0, 3);
        x.place(9, 1, 5);
        Check.due("move thing 3", x.move(3, 0), -1);
        Check.due("move thing -1", x.move(-1, 0), -1);
        Check.due("move to place 2", x.move(0, 2), -1);
        Check.due("move to place -1", x.move(0, -1), -1);
        Check.due("move without FUEL", x.move(0, 0), -7);
        x.fuel(5);
        Check.due("move with too little", x.move(0, 0), -7);
        x.fuel(1);
        Check.due("move", x.move(0, 0), 0);
        Check.due("where", x.about(0, 0), 400);
        Check.due("seal TIME", x.seal(0, 2, 0), 1000);
        Check.due("seal from", x.seal(0, 2, 1), 300);
        Check.due("seal to", x.seal(0, 2, 2), 400);
        Check.due("this PLACE already", x.move(0, 0), -6);
        Check.due("no room, ahead of FUEL", x.move(1, 0), -6);
        x.weeks(7);
        x.fuel(100);
        Check.due("just room", x.move(2, 0), 97);
        Check.due("of PLACE to PLACE", x.move(0, 1), 81);
        Check.due("seal TIME", x.seal(0, 3, 0), 1007);
        Check.due("seal from", x.seal(0, 3, 1), 400);
        Check.due("seal to", x.seal(0, 3, 2), 401);
        Check.due("room again", x.move(1, 0), 72);
        Check.due("in PLACES", x.status(7), 3);
        x.lose(1);
        Check.due("LOST", x.move(0, 0), -6);
        Check.due("refused", x.status(16), 3);
    }

    /** Promise 30. */
    private static void spreads() {
        MuseumFlight x = inTheYard(new int[] {0, 1}, new int[] {2, 3});
        Check.due("no PLACES", x.spread(false), -6);
        x.place(10, 0, 4);
        Check.due("no AIR", x.spread(false), -6);
        giveAir(x, 0, 0, 50);
        Check.due("spread", x.spread(false), 20);
        Check.due("not done", x.about(0, 0), 300);
        x.place(10, 1, 2);
        giveAir(x, 1, 0, 10);
        Check.due("the cheaper", x.spread(false), 10);
        x.band(1, 40, 60);
        Check.due("its AIR isn't in the BAND", x.spread(false), 16);
        x.fuel(15);
        Check.due("too little FUEL", x.spread(true), -7);
        Check.due("nothing is moved", x.status(6), 2);
        x.fuel(1);
        Check.due("spread", x.spread(true), 16);
        Check.due("FUEL", x.status(20), 0);
        Check.due("where", x.about(0, 0), 401);
        Check.due("where", x.about(1, 0), 400);
        Check.due("seal", x.seal(1, 2, 2), 400);
        Check.due("nothing to be moved", x.spread(true), 0);
        x.band(0, 20, 60);
        Check.due("out of the BAND", x.spread(false), 2 * (4 + 2));
        x.band(0, 10, 60);
        Check.due("in the BAND", x.spread(false), 0);
        giveAir(x, 0, 0, 50, -128);
        x.weeks(1);
        Check.due("MISSING, and the other isn't in the BAND", x.spread(false), -6);
        x.band(1, 0, 60);
        Check.due("MISSING", x.spread(false), 3 * (4 + 2));
        giveAir(x, 1, 0, -128);
        giveAir(x, 0, 0, 30);
        x.fuel(100);
        Check.due("the other way", x.spread(true), 2 * (4 + 2));
        Check.due("all in one", x.about(0, 0), 400);
        x = inTheYard(new int[] {0, 0, 0}, new int[] {2, 2, 1});
        x.place(4, 0, 1);
        x.place(9, 0, 9);
        giveAir(x, 0, 0, 50);
        giveAir(x, 1, 0, 50);
        Check.due("no more HANDS than room", x.spread(false), 2 + 2 + 9);
        x.fuel(100);
        x.move(1, 0);
        Check.due("those that stay fill it too", x.spread(false), 2 + 9);
        giveAir(x, 0, 0, -5);
        Check.due("one makes room as it goes", x.spread(false), 18 + 9 + 20);
    }

    private static void spreadKeeps() {
        MuseumFlight x = inTheYard(new int[] {0, 0, 1, 1}, new int[] {1, 1, 1, 1});
        int[] miles = {1, 5, 2};
        for (int p = 0; p < 3; p++) {
            x.place(40, p == 1 ? 1 : 0, miles[p]);
            giveAir(x, p, 0, 50);
        }
        Check.due("nothing is kept", x.spread(false), 4);
        x.keep(0, 1);
        Check.due("one elsewhere", x.spread(false), 8);
        x.keep(1, 1);
        Check.due("one of each elsewhere", x.spread(false), 12);
        x.keep(0, 2);
        Check.due("two can't be elsewhere", x.spread(false), -6);
        x.place(40, 3, 9);
        giveAir(x, 3, 0, 50);
        Check.due("nor with a third GROUP", x.spread(false), -6);
        x.keep(0, 1);
        x.keep(2, 1);
        Check.due("of a KIND without THINGS", x.spread(false), -6);
        x.keep(2, 0);
        x.fuel(100);
        Check.due("spread", x.spread(true), 12);
        int[] wants = {400, 401, 400, 401};
        for (int i = 0; i < 4; i++) {
            Check.due("where " + i, x.about(i, 0), wants[i]);
        }
        Check.due("it stands", x.spread(false), 0);
        x.move(1, 2);
        Check.due("nothing to be moved, but KEEP is broken", x.spread(true), -6);
        x.keep(0, 0);
        Check.due("nothing is kept", x.spread(true), 0);
        MuseumFlight y = inTheYard(new int[] {3, 3, 3}, new int[] {1, 1, 1});
        for (int p = 0; p < 3; p++) {
            y.place(40, p, 1 + p);
            giveAir(y, p, 0, 50);
        }
        y.keep(3, 2);
        Check.due("two elsewhere of each GROUP", y.spread(false), 6);
        y.fuel(3);
        y.move(2, 2);
        Check.due("one stays", y.spread(false), 3);
        y.fuel(3);
        y.spread(true);
        Check.due("to the lesser", y.about(0, 0), 400);
        Check.due("to the other", y.about(1, 0), 401);
    }

    /** The last THING, PLACE, GROUP and KIND; and KEEP of a KIND that isn't moved. */
    private static void spreadLast() {
        int[] kinds = new int[16];
        int[] hands = new int[16];
        java.util.Arrays.fill(kinds, 3);
        java.util.Arrays.fill(hands, 1);
        MuseumFlight x = inTheYard(kinds, hands);
        for (int p = 0; p < 5; p++) {
            x.place(p == 4 ? 13 : 3, p == 4 ? 3 : 2, p == 4 ? 1 : 9);
            giveAir(x, p, 0, 50);
        }
        x.fuel(1000);
        for (int i = 0; i < 12; i++) {
            Check.due("move", x.move(i, 4), 999 - i);
        }
        Check.due("one more fits in PLACE 4", x.spread(false), 1 + 27);
        x.keep(3, 4);
        Check.due("four elsewhere", x.spread(false), 36);
        x.keep(3, 5);
        Check.due("five can't be elsewhere", x.spread(false), -6);
        x.keep(3, 0);
        Check.due("spread", x.spread(true), 28);
        Check.due("the first", x.about(12, 0), 400);
        Check.due("the second", x.about(13, 0), 400);
        Check.due("the third", x.about(14, 0), 400);
        Check.due("the last", x.about(15, 0), 404);
        x = inTheYard(new int[] {3, 3, 0}, new int[] {1, 1, 1});
        for (int g = 0; g < 3; g++) {
            x.place(9, g, 1);
            giveAir(x, g, 0, 50);
        }
        x.fuel(9);
        x.move(0, 1);
        x.move(1, 1);
        Check.due("spread", x.spread(false), 1);
        x.keep(3, 1);
        Check.due("KEEP is broken by what stays in GROUP 1", x.spread(false), -6);
    }

    private static void spreadTies() {
        MuseumFlight x = inTheYard(new int[] {0, 0, 0}, new int[] {1, 1, 1});
        for (int p = 0; p < 5; p++) {
            x.place(p == 4 ? 9 : 1, 0, 3);
            giveAir(x, p, 0, p == 0 ? 110 : 50);
        }
        x.fuel(100);
        Check.due("spread", x.spread(true), 9);
        for (int i = 0; i < 3; i++) {
            Check.due("the first has the lesser PLACE", x.about(i, 0), 401 + i);
        }
        x = inTheYard(new int[] {0, 0, 0}, new int[] {2, 1, 1});
        x.place(2, 0, 3);
        x.place(2, 1, 3);
        giveAir(x, 0, 0, 50);
        giveAir(x, 1, 0, 50);
        x.fuel(100);
        Check.due("spread", x.spread(true), 12);
        Check.due("the first", x.about(0, 0), 400);
        Check.due("the second", x.about(1, 0), 401);
        Check.due("the third", x.about(2, 0), 401);
    }

    private static void spreadRefusals() {
        MuseumFlight x = new MuseumFlight();
        Check.due("spread ahead of the ALARM", x.spread(false), -6);
        x.alarm(1);
        Check.due("spread in the HOURS", x.spread(true), -6);
        x.minutes(1);
        Check.due("spread of nothing", x.spread(true), 0);
        int[] nine = new int[9];
        int[] ones = {1, 1, 1, 1, 1, 1, 1, 1, 1};
        x = inTheYard(nine, ones);
        Check.due("more than 8, ahead of no SPREAD", x.spread(false), -7);
        x.place(40, 0, 1);
        giveAir(x, 0, 0, 50);
        Check.due("more than 8", x.spread(true), -7);
        x.fuel(100);
        x.move(4, 0);
        Check.due("8", x.spread(true), 8);
        Check.due("all are there", x.status(7), 9);
        Check.due("all fuel", x.status(20), 91);
        giveAir(x, 0, 0, 101);
        Check.due("more than 8", x.spread(true), -7);
        Check.due("refused room", x.status(17), 3);
    }

    /** Promise 32. */
    private static void weeks() {
        MuseumFlight x = new MuseumFlight();
        Check.due("weeks ahead of the ALARM", x.weeks(1), -6);
        x.alarm(1);
        Check.due("weeks in the HOURS", x.weeks(1), -6);
        x.minutes(1);
        Check.due("weeks 0", x.weeks(0), -6);
        Check.due("weeks -1", x.weeks(-1), -6);
        Check.due("weeks 61", x.weeks(61), -6);
        for (int i = 1; i <= 16; i++) {
            Check.due("weeks 60", x.weeks(60), 60 * i);
        }
        Check.due("weeks 41: beyond 1,000", x.weeks(41), -7);
        Check.due("the WEEK", x.status(19), 960);
        Check.due("weeks 40", x.weeks(40), 1000);
        Check.due("weeks 1", x.weeks(1), -7);
        Check.due("weeks wrong ahead of room", x.weeks(61), -6);
    }

    /** Promises 33 and 34. */
    private static void losses() {
        MuseumFlight x = new MuseumFlight();
        x.thing(0, 1, 1, 1, 0);
        Check.due("lose ahead of the ALARM", x.lose(0), -6);
        Check.due("lose nobody first", x.lose(4), -1);
        Check.due("found ahead of the ALARM", x.found(0), -6);
        Check.due("found nobody first", x.found(1), -1);
        x = inTheYard(new int[] {0, 0, 0, 0, 0}, new int[] {1, 1, 1, 1, 1});
        x.place(4, 2, 1);
        x.place(4, 1, 1);
        x.place(4, 2, 1);
        x.fuel(100);
        for (int i = 0; i < 4; i++) {
            x.move(i, i % 3);
        }
        x.weeks(3);
        Check.due("lose -1", x.lose(-1), -1);
        Check.due("lose 4", x.lose(4), -1);
        Check.due("lose none", x.lose(0), 0);
        Check.due("lose", x.lose(2), 3);
        int[] wants = {500, 401, 500, 500, 300};
        for (int i = 0; i < 5; i++) {
            Check.due("where " + i, x.about(i, 0), wants[i]);
        }
        Check.due("LOST", x.status(8), 3);
        Check.due("seal TIME", x.seal(2, 3, 0), 1003);
        Check.due("seal from", x.seal(2, 3, 1), 402);
        Check.due("seal to", x.seal(2, 3, 2), 500);
        Check.due("lose again", x.lose(2), 0);
        Check.due("found one in the YARD", x.found(4), -6);
        Check.due("found one in a PLACE", x.found(1), -6);
        Check.due("found -1", x.found(-1), -1);
        Check.due("found 5", x.found(5), -1);
        Check.due("found", x.found(2), 1);
        Check.due("in the YARD", x.about(2, 0), 300);
        Check.due("seal from", x.seal(2, 4, 1), 500);
        Check.due("seal to", x.seal(2, 4, 2), 300);
        Check.due("found already", x.found(2), -6);
        Check.due("the PLACES are there still", x.move(2, 0), 100 - 5);
        MuseumFlight y = new MuseumFlight();
        y.thing(0, 1, 1, 1, 0);
        y.alarm(3);
        Check.due("lose in the HOURS", y.lose(0), -6);
        Check.due("found in the HOURS", y.found(0), -6);
        y.minutes(3);
        Check.due("LOST as the HOURS end", y.found(0), 1);
        Check.due("in the YARD", y.about(0, 0), 300);
    }
}
