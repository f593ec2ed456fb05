import java.util.function.ToLongFunction;

/** Promises 35 to 42, sentence by sentence: the edges that the document names, on both sides. */
public final class PapersEdgesTest {
    private static final int MIN = Museums.MIN;
    private static final int MAX = Museums.MAX;
    private static final int[] NO_THINGS = {-1, 3, 15, 16, MIN, MAX};

    public static void main(String[] args) {
        paperRefusals();
        paperEdges();
        papersFull();
        holderYears();
        holderOfSome();
        giveBackRefusals();
        giveBackWho();
        abouts();
        sealNumbers();
        sealTimes();
        quarrelRefusals();
        quarrelCounts();
        quarrelSizes();
        saidNothing();
        saidByTwo();
        statusNumbers();
        statusOfRefusals();
        Check.end();
    }

    private static void refused(String what, MuseumFlight x, int due, ToLongFunction<MuseumFlight> call) {
        Museums.refused(what, x, due, call);
    }

    private static void taken(String what, MuseumFlight x, long due, ToLongFunction<MuseumFlight> call) {
        Museums.taken(what, x, due, call);
    }

    private static void seen(String what, MuseumFlight x, long due, ToLongFunction<MuseumFlight> call) {
        Museums.seen(what, x, due, call);
    }

    private static MuseumFlight[] atAllTimes() {
        return new MuseumFlight[] {Museums.ahead(), Museums.inTheHours(), Museums.inTheYears()};
    }

    // ---- promise 35: "-1; -6 WHO, years; -7 more than 6"; WHO 0 to 9, years 0 to 200 ----

    private static void paperRefusals() {
        for (MuseumFlight x : atAllTimes()) {
            for (int none : NO_THINGS) {
                refused("35: -1 no THING " + none, x, -1, y -> y.paper(none, 0, 0, 0));
                refused("35: -1 ahead of -6", x, -1, y -> y.paper(none, 10, 5, 4));
            }
            for (int wrong : new int[] {-1, 10, MIN, MAX}) {
                refused("35: -6 WHO " + wrong, x, -6, y -> y.paper(0, wrong, 0, 0));
            }
            int[][] years = {{-1, 0}, {-1, -1}, {MIN, 5}, {0, 201}, {201, 201}, {5, MAX}, {1, 0}, {200, 199}, {MAX, MIN}, {MIN, MAX}};
            for (int[] y : years) {
                refused("35: -6 years " + y[0] + " to " + y[1], x, -6, z -> z.paper(0, 1, y[0], y[1]));
            }
            taken("35: at any time, wherever it is", x, 1, y -> y.paper(1, 0, 0, 200));
            taken("35: at any time, wherever it is", x, 1, y -> y.paper(2, 9, 200, 200));
            taken("35: the second", x, 2, y -> y.paper(2, 9, 0, 0));
        }
    }

    /** "(both counted; 0 to 200)" */
    private static void paperEdges() {
        int[][] spans = {{0, 0}, {200, 200}, {0, 200}, {5, 5}, {5, 6}, {199, 200}, {0, 1}};
        for (int[] span : spans) {
            MuseumFlight x = Museums.ahead();
            taken("35: years " + span[0] + " to " + span[1], x, 1, y -> y.paper(1, 7, span[0], span[1]));
            for (int year = -2; year <= 203; year++) {
                Check.due("36: year " + year, x.holder(1, year), year >= span[0] && year <= span[1] ? 7 : -1);
            }
        }
    }

    private static void papersFull() {
        MuseumFlight x = Museums.ahead();
        for (int i = 1; i <= 6; i++) {
            int many = i;
            taken("35: how many it has", x, many, y -> y.paper(1, many, 10 * many, 10 * many + 9));
            Check.due("38: its PAPERS", x.about(1, 7), many);
        }
        refused("35: -7 a 7th", x, -7, y -> y.paper(1, 0, 0, 0));
        refused("35: -6 WHO ahead of -7", x, -6, y -> y.paper(1, 10, 0, 0));
        refused("35: -6 years ahead of -7", x, -6, y -> y.paper(1, 0, 1, 0));
        for (int i = 1; i <= 6; i++) {
            Check.due("36: each PAPER counts", x.holder(1, 10 * i), i);
            Check.due("36: each PAPER counts", x.holder(1, 10 * i + 9), i);
        }
        taken("35: the other THING's", x, 2, y -> y.paper(0, 0, 0, 0));
    }

    // ---- promise 36: "NONE: none told; 100: PAPERS tell of two unlike. ... (nothing is refused)" ----

    private static void holderYears() {
        for (MuseumFlight x : atAllTimes()) {
            for (int none : NO_THINGS) {
                seen("36: no such THING " + none, x, -1, y -> y.holder(none, 15));
            }
            for (int year : new int[] {9, 21, 0, -1, 200, 201, MIN, MAX}) {
                seen("36: none told of " + year, x, -1, y -> y.holder(0, year));
            }
            for (int year : new int[] {10, 15, 20}) {
                seen("36: WHO of " + year, x, 4, y -> y.holder(0, year));
            }
            seen("36: without PAPERS", x, -1, y -> y.holder(1, 15));
        }
    }

    /** "WHO is told by PAPERS of that year, if there are any and they tell of one alone" */
    private static void holderOfSome() {
        MuseumFlight x = Museums.ahead();
        x.paper(1, 0, 0, 50);
        seen("36: WHO 0", x, 0, y -> y.holder(1, 50));
        x.paper(1, 0, 40, 60);
        seen("36: two alike", x, 0, y -> y.holder(1, 45));
        x.paper(1, 9, 50, 70);
        seen("36: two alike and another", x, 100, y -> y.holder(1, 50));
        seen("36: a year ahead of that", x, 0, y -> y.holder(1, 49));
        seen("36: two unlike", x, 100, y -> y.holder(1, 60));
        seen("36: a year behind that", x, 9, y -> y.holder(1, 61));
        x.paper(1, 5, 60, 60);
        seen("36: three unlike", x, 100, y -> y.holder(1, 60));
        x.paper(1, 9, 70, 80);
        seen("36: two of WHO 9", x, 9, y -> y.holder(1, 70));
        x.paper(1, 0, 80, 90);
        seen("36: the last PAPER counts", x, 100, y -> y.holder(1, 80));
        seen("36: the last PAPER alone", x, 0, y -> y.holder(1, 90));
        seen("36: none told", x, -1, y -> y.holder(1, 91));
    }

    // ---- promise 37: "-1; -6 not in the YEARS, not there, no HOLDER" ----

    private static void giveBackRefusals() {
        for (MuseumFlight x : atAllTimes()) {
            for (int none : NO_THINGS) {
                refused("37: -1 no THING " + none, x, -1, y -> y.giveBack(none, 15));
            }
        }
        refused("37: -6 ahead of the ALARM", Museums.ahead(), -6, y -> y.giveBack(0, 15));
        refused("37: -6 in the HOURS, IN HAND", Museums.inTheHours(), -6, y -> y.giveBack(0, 15));
        MuseumFlight hours = Museums.inTheHours();
        hours.minutes(1);
        refused("37: -6 in the HOURS, in the YARD", hours, -6, y -> y.giveBack(0, 15));
        MuseumFlight x = Museums.inTheYears();
        for (int year : new int[] {9, 21, -1, 201, MIN, MAX}) {
            refused("37: -6 no HOLDER in " + year, x, -6, y -> y.giveBack(0, year));
        }
        x.paper(0, 5, 20, 20);
        refused("37: -6 PAPERS tell of two", x, -6, y -> y.giveBack(0, 20));
        refused("37: -6 without PAPERS", x, -6, y -> y.giveBack(1, 15));
        x.paper(2, 3, 15, 15);
        refused("37: -6 LOST", x, -6, y -> y.giveBack(2, 15));
        taken("37: in a PLACE", x, 4, y -> y.giveBack(0, 19));
        refused("37: -6 given back already", x, -6, y -> y.giveBack(0, 19));
    }

    private static void giveBackWho() {
        for (int who = 0; who <= 9; who++) {
            MuseumFlight x = Museums.inTheYears();
            int w = who;
            x.paper(1, who, 30, 30);
            x.weeks(who + 1);
            taken("37: WHO, in the YARD", x, who, y -> y.giveBack(1, 30));
            Check.due("37: 600 and WHO", x.about(1, 0), 600 + who);
            Check.due("37: TIME", x.seal(1, 2, 0), 1001 + who);
            Check.due("37: where it was", x.seal(1, 2, 1), 300);
            Check.due("37: where it is", x.seal(1, 2, 2), 600 + w);
            Check.due("37: how many", x.status(9), 1);
        }
    }

    // ---- promise 38: "NONE: no such THING, another what" ----

    private static void abouts() {
        int[][] wheres = {{101, 102, 109}, {200, 102, 109}, {400, 300, 500}};
        MuseumFlight[] times = atAllTimes();
        for (int t = 0; t < 3; t++) {
            MuseumFlight x = times[t];
            for (int none : NO_THINGS) {
                for (int what = -1; what <= 8; what++) {
                    int w = what;
                    seen("38: no such THING " + none, x, -1, y -> y.about(none, w));
                }
            }
            for (int what : new int[] {-1, 8, MIN, MAX}) {
                seen("38: another what " + what, x, -1, y -> y.about(0, what));
            }
            int[][] wants = {{wheres[t][0], 0, 10, 1, 0}, {wheres[t][1], 1, 20, 2, 3}, {wheres[t][2], 2, 30, 1, 0}};
            for (int i = 0; i < 3; i++) {
                int thing = i;
                for (int what = 0; what < 5; what++) {
                    int w = what;
                    seen("38: THING " + i + ", what " + what, x, wants[i][what], y -> y.about(thing, w));
                }
                seen("38: HARM", x, 0, y -> y.about(thing, 5));
            }
            seen("38: PAPERS of THING 0", x, 1, y -> y.about(0, 7));
            seen("38: PAPERS of THING 1", x, 0, y -> y.about(1, 7));
        }
        int[][] seals = {{0, 0, 0}, {1, 0, 0}, {3, 2, 1}};
        for (int t = 0; t < 3; t++) {
            for (int i = 0; i < 3; i++) {
                Check.due("38: SEALS of THING " + i, times[t].about(i, 6), seals[t][i]);
            }
        }
    }

    // ---- promise 39: "NONE: no such one, another what" ----

    private static void sealNumbers() {
        for (MuseumFlight x : atAllTimes()) {
            for (int none : NO_THINGS) {
                seen("39: no such THING " + none, x, -1, y -> y.seal(none, 0, 0));
            }
            for (int i = 0; i < 3; i++) {
                int thing = i;
                int many = x.about(i, 6);
                for (int none : new int[] {-1, many, many + 1, MIN, MAX, 715827883, 1431655766}) {
                    seen("39: no such SEAL " + none, x, -1, y -> y.seal(thing, none, 0));
                    seen("39: no such SEAL " + none, x, -1, y -> y.seal(thing, none, 2));
                }
                for (int what : new int[] {-1, 3, MIN, MAX}) {
                    seen("39: another what " + what, x, -1, y -> y.seal(thing, 0, what));
                    seen("39: another what, of the last " + what, x, -1, y -> y.seal(thing, many - 1, what));
                }
            }
        }
    }

    /** "Whenever that changes, the THING gets a SEAL": each where it was is where it came to before. */
    private static void sealTimes() {
        MuseumFlight x = Museums.inTheYears();
        x.weeks(60);
        x.place(9, 1, 1);
        x.move(0, 1);
        x.weeks(3);
        x.lose(1);
        x.found(0);
        x.giveBack(0, 15);
        int[][] wants = {{0, 101, 200}, {2, 200, 300}, {1000, 300, 400}, {1060, 400, 401}, {1063, 401, 500}, {1063, 500, 300}, {1063, 300, 604}};
        Check.due("39: SEALS", x.about(0, 6), wants.length);
        for (int i = 0; i < wants.length; i++) {
            for (int what = 0; what < 3; what++) {
                Check.due("39: SEAL " + i + ", what " + what, x.seal(0, i, what), wants[i][what]);
            }
        }
        String before = Museums.picture(x);
        x.move(0, 0);
        x.found(0);
        x.giveBack(0, 15);
        x.lose(0);
        Check.holds("39: what doesn't change gets no SEAL", Museums.picture(x).equals(before));
    }

    // ---- promise 40: "-1; -2 (SORTS may differ); -3" ----

    private static void quarrelRefusals() {
        MuseumFlight x = Museums.ahead();
        int[] shelves = {0, 1, 2, 7};
        for (int a : shelves) {
            for (int b : shelves) {
                for (int none : new int[] {-1, 8, MIN, MAX}) {
                    refused("40: -1 a", x, -1, y -> y.quarrel(none, a, b));
                    refused("40: -1 b", x, -1, y -> y.quarrel(a, none, b));
                    refused("40: -1 c", x, -1, y -> y.quarrel(a, b, none));
                }
                refused("40: -2 a THING in a", x, -2, y -> y.quarrel(1, a, b));
                refused("40: -2 a THING in b", x, -2, y -> y.quarrel(a, 1, b));
                refused("40: -2 a THING in c", x, -2, y -> y.quarrel(a, b, 1));
                if (a != 1 && b != 1) {
                    refused("40: -3 NOTHING in a", x, -3, y -> y.quarrel(7, a, b));
                    refused("40: -3 NOTHING in b", x, -3, y -> y.quarrel(a, 7, b));
                    refused("40: -3 NOTHING in c", x, -3, y -> y.quarrel(a, b, 7));
                }
            }
        }
        x.row(3, 3, 3);
        x.copy(0, 0, 0, 0, 0);
        seen("40: SORTS may differ", x, 3, y -> y.quarrel(0, 0, 3));
    }

    private static void quarrelCounts() {
        for (int a = 0; a < 3; a++) {
            for (int b = 0; b < 3; b++) {
                for (int c = 0; c < 3; c++) {
                    MuseumFlight x = new MuseumFlight();
                    x.thing(0, 1, 1, 1, 0);
                    Museums.write(x, 0, 0, a - 1);
                    Museums.write(x, 1, 1, b - 1);
                    Museums.write(x, 2, 3, c - 1);
                    int kinds = 1 + (b != a ? 1 : 0) + (c != a && c != b ? 1 : 0);
                    seen("40: " + kinds + " unlike numbers", x, kinds - 1, y -> y.quarrel(0, 1, 2));
                }
            }
        }
        MuseumFlight x = new MuseumFlight();
        Museums.write(x, 0, 0, -1);
        Museums.write(x, 1, 3, 255);
        seen("40: without THINGS no quarrel", x, 0, y -> y.quarrel(0, 1, 1));
        x.thing(0, 1, 1, 1, 0);
        seen("40: -1 and 255 are unlike", x, 1, y -> y.quarrel(0, 0, 1));
        x.set(1, 0, -1);
        seen("40: -1 and -1 are alike", x, 0, y -> y.quarrel(0, 0, 1));
        x.set(1, 0, (1L << 32) - 1);
        seen("40: numbers as longs", x, 1, y -> y.quarrel(0, 1, 0));
    }

    /** "(an element that isn't there is unlike all)": what isn't there can't stay as it is. */
    private static void quarrelSizes() {
        for (int things = 0; things <= 16; things++) {
            MuseumFlight x = new MuseumFlight();
            for (int i = 0; i < things; i++) {
                x.thing(0, 1, 1, 1, 0);
            }
            for (int s = 0; s < 3; s++) {
                x.row(s, s, s * 6);
            }
            int all = Math.min(things, 6);
            int two = Math.min(things, 12);
            seen("40: 0, 6 and 12 zeros", x, all + 2 * (two - all) + 3 * (things - two), y -> y.quarrel(0, 1, 2));
            seen("40: 12, 12 and 0 zeros", x, two + 3 * (things - two), y -> y.quarrel(2, 2, 0));
            seen("40: 12 zeros thrice", x, 3 * (things - two), y -> y.quarrel(2, 2, 2));
            x.row(3, 3, 60);
            seen("40: what is behind the THINGS doesn't count", x, 0, y -> y.quarrel(3, 3, 3));
            seen("40: 60, 60 and 6", x, things - all, y -> y.quarrel(3, 1, 3));
        }
    }

    // ---- promise 41: "NONE: no two ..., no such THING, a SHELF without a ROW" ----

    private static void saidNothing() {
        for (MuseumFlight x : atAllTimes()) {
            for (int none : NO_THINGS) {
                seen("41: no such THING " + none, x, -1, y -> y.said(0, 0, 0, none));
            }
            for (int without : new int[] {-1, 8, 1, 7, MIN, MAX}) {
                seen("41: a without a ROW", x, -1, y -> y.said(without, 0, 0, 0));
                seen("41: b without a ROW", x, -1, y -> y.said(0, without, 0, 0));
                seen("41: c without a ROW", x, -1, y -> y.said(0, 0, without, 0));
            }
            seen("41: all three", x, 50, y -> y.said(0, 0, 0, 0));
            seen("41: two of them", x, 0, y -> y.said(0, 2, 2, 0));
            seen("41: two of them have it", x, 77, y -> y.said(2, 0, 2, 1));
            seen("41: two of them don't have it", x, -1, y -> y.said(2, 0, 2, 2));
        }
    }

    private static void saidByTwo() {
        long[] numbers = {Long.MIN_VALUE, Long.MAX_VALUE, -1, 0, 1L << 32};
        for (long n : numbers) {
            MuseumFlight x = new MuseumFlight();
            x.thing(0, 1, 1, 1, 0);
            Museums.write(x, 0, 3, n);
            Museums.write(x, 1, 3, 5);
            Museums.write(x, 2, 3, 6);
            x.row(3, 3, 0);
            seen("41: a and b", x, n, y -> y.said(0, 0, 1, 0));
            seen("41: a and c", x, n, y -> y.said(0, 1, 0, 0));
            seen("41: b and c", x, n, y -> y.said(1, 0, 0, 0));
            seen("41: no two", x, -1, y -> y.said(0, 1, 2, 0));
            seen("41: two, and one that isn't there", x, n, y -> y.said(0, 3, 0, 0));
            seen("41: one alone is there", x, -1, y -> y.said(3, 0, 3, 0));
            seen("41: none is there", x, -1, y -> y.said(3, 3, 3, 0));
        }
        MuseumFlight x = new MuseumFlight();
        for (int i = 0; i < 16; i++) {
            x.thing(0, 1, 1, 1, 0);
        }
        x.row(0, 0, 16);
        x.set(0, 15, -9);
        x.row(1, 3, 60);
        x.set(1, 15, -9);
        x.row(2, 2, 15);
        seen("41: the last THING, of two SORTS", x, -9, y -> y.said(0, 2, 1, 15));
        seen("41: no THING 16, though it is in a ROW", x, -1, y -> y.said(1, 1, 1, 16));
    }

    // ---- promise 42: "NONE for another what" ----

    private static void statusNumbers() {
        int[][] wants = {
            {3, 2, 1, 1, 3, 0, 0, 0, 0, 0, 0, 0, 0, 0, 0, 0, 0, 0, 0, 0, 0},
            {3, 2, 1, 1, 2, 1, 0, 0, 0, 0, 1, 0, 0, 0, 0, 0, 0, 0, 1, 0, 0},
            {3, 2, 1, 1, 0, 0, 1, 1, 1, 0, 2, 0, 0, 0, 0, 0, 0, 0, 60, 0, 98},
        };
        MuseumFlight[] times = atAllTimes();
        for (int t = 0; t < 3; t++) {
            for (int what = 0; what <= 20; what++) {
                int w = what;
                seen("42: time " + t + ", what " + what, times[t], wants[t][what], y -> y.status(w));
            }
            for (int what : new int[] {-1, 21, 22, 100, MIN, MAX}) {
                seen("42: another what " + what, times[t], -1, y -> y.status(what));
            }
        }
        MuseumFlight x = Museums.inTheYears();
        x.giveBack(0, 15);
        x.weeks(2);
        Check.due("42: given back", x.status(9), 1);
        Check.due("42: in PLACES", x.status(7), 0);
        Check.due("42: the WEEK", x.status(19), 2);
        Check.due("42: NOW stays", x.status(18), 60);
    }

    /** "11 to 17: REFUSALS -1 to -7" */
    private static void statusOfRefusals() {
        MuseumFlight x = Museums.ahead();
        for (int n = 1; n <= 5; n++) {
            Check.due("NOBODY", x.worthIn(8), -1);
            Check.due("OTHER", x.worthIn(0), -2);
            Check.due("NOTHING", x.worthIn(7), -3);
            Check.due("BELOW", x.row(0, 0, -1), -4);
            Check.due("BEYOND", x.set(0, 3, 0), -5);
            Check.due("WRONG", x.fuel(-1), -6);
            Check.due("ROOM", x.row(0, 0, 61), -7);
            for (int what = 11; what <= 17; what++) {
                Check.due("42: REFUSALS " + (10 - what), x.status(what), n);
            }
        }
        for (int n = 0; n < 480; n++) {
            x.worthIn(9);
        }
        Check.due("42: 485 REFUSALS", x.status(11), 485);
    }
}
