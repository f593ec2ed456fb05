import java.util.function.ToLongFunction;

/** Museums to begin tests with, one for each time, and a look at all that can be looked at. */
final class Museums {
    static final int MIN = Integer.MIN_VALUE;
    static final int MAX = Integer.MAX_VALUE;

    private Museums() {
    }

    /**
     * Two DOORS, a TEAM, three THINGS (the last without a way), a PLACE, a PAPER; SHELF 0 holds a ROW of 3 bytes,
     * 1 THING 0, 2 a ROW of 2 ints, the others NOTHING.
     */
    static MuseumFlight ahead() {
        MuseumFlight x = new MuseumFlight();
        x.door(0, 1, 1);
        x.door(1, 2, 1);
        x.team(2);
        x.thing(0, 10, 1, 1, 0);
        x.thing(1, 20, 2, 2, 3);
        x.thing(2, 30, 1, 9, 0);
        x.place(5, 0, 2);
        x.paper(0, 4, 10, 20);
        x.row(0, 0, 3);
        x.set(0, 0, 50);
        x.set(0, 1, -128);
        x.set(0, 2, 99);
        x.air(0, 0);
        x.show(1, 0);
        x.row(2, 2, 2);
        x.set(2, 1, 77);
        return x;
    }

    /** In minute 1: THING 0 is IN HAND. */
    static MuseumFlight inTheHours() {
        MuseumFlight x = ahead();
        x.alarm(60);
        x.minutes(1);
        return x;
    }

    /** In WEEK 0: THING 0 is in PLACE 0, THING 1 in the YARD, THING 2 LOST. */
    static MuseumFlight inTheYears() {
        MuseumFlight x = inTheHours();
        x.minutes(240);
        x.fuel(100);
        x.move(0, 0);
        return x;
    }

    /** THINGS of some KINDS and HANDS, all in the YARD as THE YEARS begin. */
    static MuseumFlight inTheYard(int[] kinds, int[] hands) {
        return YearsTest.inTheYard(kinds, hands);
    }

    /** As many THINGS of KIND 0 and one HAND. */
    static MuseumFlight inTheYard(int many) {
        int[] hands = new int[many];
        java.util.Arrays.fill(hands, 1);
        return inTheYard(new int[many], hands);
    }

    static void write(MuseumFlight x, int s, int sort, long... elements) {
        x.row(s, sort, elements.length);
        for (int i = 0; i < elements.length; i++) {
            x.set(s, i, elements[i]);
        }
    }

    static void giveAir(MuseumFlight x, int place, long... air) {
        write(x, 7, 2, air);
        x.air(place, 7);
    }

    /** All answers of the calls that change nothing and are never refused, but how many REFUSALS there were. */
    static String picture(MuseumFlight x) {
        StringBuilder text = new StringBuilder();
        for (int what = -1; what <= 21; what++) {
            text.append(what >= 11 && what <= 17 ? 0 : x.status(what)).append(' ');
        }
        text.append(x.fault());
        for (int i = 0; i < x.status(0); i++) {
            picture(x, i, text.append("\nTHING ").append(i).append(':'));
        }
        for (int s = 0; s < 8; s++) {
            text.append("\nSHELF ").append(x.holds(s)).append(':');
            for (int i = 0; i < 60; i++) {
                text.append(' ').append(x.element(s, i));
            }
        }
        for (int p = 0; p < x.status(3); p++) {
            for (int w = 0; w < 60; w++) {
                text.append(' ').append(x.airIn(p, w));
            }
        }
        for (int r = 0; r < 12; r++) {
            text.append(" far ").append(x.far(r));
        }
        return text.toString();
    }

    private static void picture(MuseumFlight x, int i, StringBuilder text) {
        for (int what = 0; what < 8; what++) {
            text.append(' ').append(x.about(i, what));
        }
        text.append(' ').append(x.given(i)).append(' ').append(x.begins(i));
        for (int s = 0; s < x.about(i, 6); s++) {
            text.append(" seal ").append(x.seal(i, s, 0)).append(' ').append(x.seal(i, s, 1)).append(' ').append(x.seal(i, s, 2));
        }
        for (int year = 0; year <= 200; year++) {
            text.append(' ').append(x.holder(i, year));
        }
    }

    /** The call is refused with this number: one more of it is counted, and nothing else changes. */
    static void refused(String what, MuseumFlight x, int due, ToLongFunction<MuseumFlight> call) {
        String before = picture(x);
        int[] counts = new int[8];
        for (int r = 1; r <= 7; r++) {
            counts[r] = x.status(10 + r);
        }
        Check.due(what, call.applyAsLong(x), due);
        for (int r = 1; r <= 7; r++) {
            Check.due(what + ": REFUSALS -" + r, x.status(10 + r), counts[r] + (r == -due ? 1 : 0));
        }
        Check.holds(what + ": nothing changes", picture(x).equals(before));
    }

    /** The call answers this, and nothing is refused. */
    static void taken(String what, MuseumFlight x, long due, ToLongFunction<MuseumFlight> call) {
        int before = refusals(x);
        Check.due(what, call.applyAsLong(x), due);
        Check.due(what + ": nothing is refused", refusals(x), before);
    }

    /** The call only looks: it answers this, nothing is refused, and nothing changes. */
    static void seen(String what, MuseumFlight x, long due, ToLongFunction<MuseumFlight> call) {
        String before = picture(x);
        taken(what, x, due, call);
        Check.holds(what + ": nothing changes", picture(x).equals(before));
    }

    static int refusals(MuseumFlight x) {
        int sum = 0;
        for (int r = 1; r <= 7; r++) {
            sum += x.status(10 + r);
        }
        return sum;
    }
}
