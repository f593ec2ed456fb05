import java.util.function.ToLongFunction;

/** Promises 8 to 14, sentence by sentence: the edges that the document names, on both sides. */
public final class ShelvesEdgesTest {
    private static final int MIN = Museums.MIN;
    private static final int MAX = Museums.MAX;
    private static final int[] NO_SHELVES = {-1, 8, MIN, MAX};

    public static void main(String[] args) {
        rowShelves();
        rowSizes();
        rowSorts();
        rowIsNew();
        setRefusals();
        setPlaces();
        lowestBits();
        copyShelves();
        copyNumbers();
        copyEnds();
        copyOnItself();
        elements();
        shows();
        holds();
        worths();
        atAnyTime();
        Check.end();
    }

    private static void refused(String what, MuseumFlight x, int due, ToLongFunction<MuseumFlight> call) {
        Museums.refused(what, x, due, call);
    }

    // ---- promise 8: "-1; -4; -6 SORT; -7 n above 60" ----

    private static void rowShelves() {
        MuseumFlight x = Museums.ahead();
        for (int none : NO_SHELVES) {
            refused("8: -1 no SHELF " + none, x, -1, y -> y.row(none, 0, 1));
            refused("8: -1 ahead of -4", x, -1, y -> y.row(none, 0, -1));
            refused("8: -1 ahead of -6", x, -1, y -> y.row(none, 4, 1));
            refused("8: -1 ahead of -7", x, -1, y -> y.row(none, 0, 61));
        }
        for (int s = 0; s < 8; s++) {
            int shelf = s;
            Museums.taken("8: SHELF " + s, x, 1, y -> y.row(shelf, 3, 1));
            Check.due("8: it holds a ROW", x.holds(s), 103);
        }
    }

    private static void rowSizes() {
        MuseumFlight x = Museums.ahead();
        for (int below : new int[] {-1, -61, MIN}) {
            refused("8: -4 a size below 0: " + below, x, -4, y -> y.row(0, 0, below));
            refused("8: -4 ahead of -6", x, -4, y -> y.row(0, 4, below));
            refused("8: -4 ahead of -6", x, -4, y -> y.row(0, -1, below));
        }
        for (int above : new int[] {61, 1000, MAX}) {
            refused("8: -7 n above 60: " + above, x, -7, y -> y.row(0, 0, above));
            refused("8: -6 ahead of -7", x, -6, y -> y.row(0, 4, above));
        }
        Museums.taken("8: n 0", x, 1, y -> y.row(3, 2, 0));
        Check.due("8: a ROW of no elements", x.holds(3), 102);
        refused("8: it has no element 0", x, -5, y -> y.set(3, 0, 1));
        Museums.taken("8: n 60", x, 1, y -> y.row(3, 2, 60));
        Museums.taken("8: it has element 59", x, 1, y -> y.set(3, 59, 1));
        refused("8: it has no element 60", x, -5, y -> y.set(3, 60, 1));
    }

    private static void rowSorts() {
        MuseumFlight x = Museums.ahead();
        for (int wrong : new int[] {-1, 4, MIN, MAX}) {
            refused("8: -6 SORT " + wrong, x, -6, y -> y.row(0, wrong, 1));
            refused("8: -6 SORT, n 60 " + wrong, x, -6, y -> y.row(0, wrong, 60));
        }
        for (int sort = 0; sort < 4; sort++) {
            int one = sort;
            Museums.taken("8: SORT " + sort, x, 1, y -> y.row(5, one, 1));
            Check.due("8: 100 and the SORT", x.holds(5), 100 + sort);
        }
    }

    /** "0 at first" */
    private static void rowIsNew() {
        MuseumFlight x = new MuseumFlight();
        x.row(0, 3, 60);
        for (int i = 0; i < 60; i++) {
            Check.due("8: elements are 0 at first", x.element(0, i), 0);
            x.set(0, i, -1 - i);
        }
        x.row(0, 3, 60);
        for (int i = 0; i < 60; i++) {
            Check.due("8: elements of a new ROW are 0", x.element(0, i), 0);
        }
        x.set(0, 2, 9);
        x.row(0, 1, 2);
        x.row(0, 3, 3);
        Check.due("8: nothing stays behind a shorter ROW", x.element(0, 2), 0);
        x.set(0, 2, 9);
        x.thing(0, 1, 1, 1, 0);
        x.show(0, 0);
        x.row(0, 3, 3);
        Check.due("8: nothing stays behind a THING", x.element(0, 2), 0);
    }

    // ---- promise 9: "-1; -2; -3; -5" ----

    private static void setRefusals() {
        MuseumFlight x = Museums.ahead();
        for (int none : NO_SHELVES) {
            refused("9: -1 no SHELF " + none, x, -1, y -> y.set(none, 0, 1));
            refused("9: -1 ahead of -5", x, -1, y -> y.set(none, -1, 1));
        }
        refused("9: -2 a THING", x, -2, y -> y.set(1, 0, 1));
        refused("9: -2 ahead of -5", x, -2, y -> y.set(1, -1, 1));
        refused("9: -3 NOTHING", x, -3, y -> y.set(7, 0, 1));
        refused("9: -3 ahead of -5", x, -3, y -> y.set(7, 99, 1));
    }

    private static void setPlaces() {
        MuseumFlight x = Museums.ahead();
        for (int beyond : new int[] {-1, 3, 59, 60, MIN, MAX}) {
            refused("9: -5 no element " + beyond, x, -5, y -> y.set(0, beyond, 1));
        }
        Museums.taken("9: the first", x, 1, y -> y.set(0, 0, 11));
        Museums.taken("9: the last", x, 1, y -> y.set(0, 2, 33));
        Check.due("9: the first", x.element(0, 0), 11);
        Check.due("9: the one between stays", x.element(0, 1), -128);
        Check.due("9: the last", x.element(0, 2), 33);
    }

    /** "what is put in keeps its lowest bits" */
    private static void lowestBits() {
        MuseumFlight x = new MuseumFlight();
        for (int sort = 0; sort < 4; sort++) {
            x.row(sort, sort, 1);
        }
        long[] values = {0, 1, -1, 127, 128, -128, -129, 255, 256, 32767, 32768, -32768, -32769, 65535, 65536,
            2147483647L, 2147483648L, -2147483648L, -2147483649L, 4294967295L, 4294967296L, Long.MAX_VALUE, Long.MIN_VALUE};
        for (long v : values) {
            long[] kept = {(byte) v, (short) v, (int) v, v};
            for (int sort = 0; sort < 4; sort++) {
                int s = sort;
                Museums.taken("9: set " + v, x, 1, y -> y.set(s, 0, v));
                Check.due("9: SORT " + sort + " keeps of " + v, x.element(sort, 0), kept[sort]);
            }
        }
    }

    // ---- promise 10 ----

    private static void copyShelves() {
        MuseumFlight x = Museums.ahead();
        for (int none : NO_SHELVES) {
            for (int other : new int[] {0, 1, 2, 7, none}) {
                refused("10: -1 no SHELF p", x, -1, y -> y.copy(none, other, -1, 99, -1));
                refused("10: -1 no SHELF q", x, -1, y -> y.copy(other, none, -1, 99, -1));
            }
        }
        for (int other : new int[] {0, 1, 2, 7}) {
            refused("10: -2 a THING in p, beside " + other, x, -2, y -> y.copy(1, other, -1, 99, -1));
            refused("10: -2 a THING in q, beside " + other, x, -2, y -> y.copy(other, 1, 0, 0, 1));
        }
        refused("10: -2 of two SORTS", x, -2, y -> y.copy(0, 2, 0, 0, 1));
        refused("10: -2 of two SORTS, ahead of -4", x, -2, y -> y.copy(2, 0, 0, 0, -1));
        refused("10: -2 of two SORTS, ahead of -5", x, -2, y -> y.copy(2, 0, -1, 0, 1));
        refused("10: -3 NOTHING in p", x, -3, y -> y.copy(7, 0, 0, 0, 1));
        refused("10: -3 NOTHING in q", x, -3, y -> y.copy(0, 7, 0, 0, 1));
        refused("10: -3 NOTHING in both", x, -3, y -> y.copy(6, 7, 0, 0, 1));
        refused("10: -3 ahead of -4", x, -3, y -> y.copy(0, 7, 0, 0, -1));
        refused("10: -3 ahead of -5", x, -3, y -> y.copy(7, 0, -1, 0, 1));
        for (int a = 0; a < 4; a++) {
            for (int b = 0; b < 4; b++) {
                x.row(4, a, 2);
                x.row(5, b, 2);
                if (a == b) {
                    Museums.taken("10: of one SORT " + a, x, 1, y -> y.copy(4, 5, 0, 0, 2));
                } else {
                    refused("10: -2 of SORTS " + a + " and " + b, x, -2, y -> y.copy(4, 5, 0, 0, 2));
                }
            }
        }
    }

    private static MuseumFlight twoRows() {
        MuseumFlight x = new MuseumFlight();
        Museums.write(x, 0, 2, 1, 2, 3, 4);
        Museums.write(x, 1, 2, 10, 20, 30, 40, 50, 60);
        return x;
    }

    private static void holds(String what, MuseumFlight x, int s, long... wants) {
        for (int i = 0; i < wants.length; i++) {
            Check.due(what + ": element " + i, x.element(s, i), wants[i]);
        }
    }

    private static void copyNumbers() {
        MuseumFlight x = twoRows();
        for (int below : new int[] {-1, MIN}) {
            refused("10: -4 n " + below, x, -4, y -> y.copy(0, 1, 0, 0, below));
            refused("10: -4 ahead of -5 i below 0", x, -4, y -> y.copy(0, 1, -1, 0, below));
            refused("10: -4 ahead of -5 j too far", x, -4, y -> y.copy(0, 1, 0, 7, below));
        }
        for (int below : new int[] {-1, MIN}) {
            for (int n : new int[] {0, 1, 2, MAX}) {
                refused("10: -5 i below 0", x, -5, y -> y.copy(0, 1, below, 0, n));
                refused("10: -5 j below 0", x, -5, y -> y.copy(0, 1, 0, below, n));
            }
        }
        holds("10: nothing was copied", x, 1, 10, 20, 30, 40, 50, 60);
    }

    /** "an end that isn't there" */
    private static void copyEnds() {
        MuseumFlight x = twoRows();
        refused("10: -5 one too many of p", x, -5, y -> y.copy(0, 1, 0, 0, 5));
        refused("10: -5 one too far in p", x, -5, y -> y.copy(0, 1, 1, 0, 4));
        refused("10: -5 one too many for q", x, -5, y -> y.copy(1, 0, 0, 0, 5));
        refused("10: -5 one too far in q", x, -5, y -> y.copy(0, 1, 0, 3, 4));
        refused("10: -5 none, one behind the end of p", x, -5, y -> y.copy(0, 1, 5, 0, 0));
        refused("10: -5 none, one behind the end of q", x, -5, y -> y.copy(0, 1, 0, 7, 0));
        for (int i = -3; i <= 9; i++) {
            for (int far : new int[] {MAX, MAX - 1, MAX - 4}) {
                int at = i;
                refused("10: -5 no wrap-around of n", x, -5, y -> y.copy(0, 1, at, 0, far));
                refused("10: -5 no wrap-around of i", x, -5, y -> y.copy(0, 1, far, 0, Math.max(at, 0)));
                refused("10: -5 no wrap-around of j", x, -5, y -> y.copy(0, 1, 0, far, Math.max(at, 0)));
            }
        }
        Museums.taken("10: none, at both ends", x, 1, y -> y.copy(0, 1, 4, 6, 0));
        holds("10: nothing was copied", x, 1, 10, 20, 30, 40, 50, 60);
        Museums.taken("10: the last to the last", x, 1, y -> y.copy(0, 1, 3, 5, 1));
        holds("10: the last", x, 1, 10, 20, 30, 40, 50, 4);
        Museums.taken("10: all", x, 1, y -> y.copy(0, 1, 0, 0, 4));
        holds("10: all", x, 1, 1, 2, 3, 4, 50, 4);
        holds("10: p stays", x, 0, 1, 2, 3, 4);
        x.row(2, 2, 0);
        Museums.taken("10: none of an empty ROW", x, 1, y -> y.copy(2, 2, 0, 0, 0));
        refused("10: -5 one of an empty ROW", x, -5, y -> y.copy(2, 1, 0, 0, 1));
        x.row(3, 2, 60);
        x.row(4, 2, 60);
        x.set(3, 59, 7);
        Museums.taken("10: all 60", x, 1, y -> y.copy(3, 4, 0, 0, 60));
        Check.due("10: the last of 60", x.element(4, 59), 7);
        refused("10: -5 the 61st", x, -5, y -> y.copy(3, 4, 0, 0, 61));
    }

    /** "(as they were ahead)" */
    private static void copyOnItself() {
        MuseumFlight x = new MuseumFlight();
        Museums.write(x, 0, 3, 1, 2, 3, 4, 5);
        Museums.taken("10: upwards on itself", x, 1, y -> y.copy(0, 0, 0, 1, 4));
        holds("10: upwards, as they were", x, 0, 1, 1, 2, 3, 4);
        Museums.taken("10: downwards on itself", x, 1, y -> y.copy(0, 0, 1, 0, 4));
        holds("10: downwards, as they were", x, 0, 1, 2, 3, 4, 4);
        Museums.taken("10: all on itself", x, 1, y -> y.copy(0, 0, 0, 0, 5));
        holds("10: as it was", x, 0, 1, 2, 3, 4, 4);
    }

    // ---- promise 11: "0 if there is none (nothing is refused)" ----

    private static void elements() {
        MuseumFlight x = Museums.ahead();
        Museums.seen("11: the first", x, 50, y -> y.element(0, 0));
        Museums.seen("11: the last", x, 99, y -> y.element(0, 2));
        for (int none : new int[] {-1, 3, 59, 60, MIN, MAX}) {
            Museums.seen("11: no element " + none, x, 0, y -> y.element(0, none));
        }
        for (int none : NO_SHELVES) {
            Museums.seen("11: no SHELF " + none, x, 0, y -> y.element(none, 0));
        }
        Museums.seen("11: a THING", x, 0, y -> y.element(1, 0));
        Museums.seen("11: NOTHING", x, 0, y -> y.element(7, 0));
        x.set(0, 2, 5);
        x.show(0, 0);
        Museums.seen("11: a THING where a ROW was", x, 0, y -> y.element(0, 2));
        x.show(0, -1);
        Museums.seen("11: NOTHING where a ROW was", x, 0, y -> y.element(0, 2));
    }

    // ---- promise 12: "-1 either" ----

    private static void shows() {
        MuseumFlight x = Museums.ahead();
        for (int none : NO_SHELVES) {
            refused("12: -1 no SHELF " + none, x, -1, y -> y.show(none, 0));
            refused("12: -1 no SHELF for NOTHING " + none, x, -1, y -> y.show(none, -1));
        }
        for (int none : new int[] {-2, 3, 16, MIN, MAX}) {
            refused("12: -1 no THING " + none, x, -1, y -> y.show(1, none));
            refused("12: -1 no THING in a ROW's stead " + none, x, -1, y -> y.show(0, none));
            refused("12: -1 neither " + none, x, -1, y -> y.show(8, none));
        }
        Museums.taken("12: the last THING", x, 1, y -> y.show(7, 2));
        Check.due("12: it is held", x.holds(7), 2);
        Museums.taken("12: the same THING in another SHELF", x, 1, y -> y.show(6, 2));
        Check.due("12: it is held in both", x.holds(7), 2);
        Museums.taken("12: NOTHING", x, 0, y -> y.show(7, -1));
        Check.due("12: NOTHING is held", x.holds(7), -1);
        Museums.taken("12: NOTHING once more", x, 0, y -> y.show(7, -1));
        Museums.taken("12: NOTHING in a ROW's stead", x, 0, y -> y.show(0, -1));
        refused("12: the ROW is gone", x, -3, y -> y.set(0, 0, 1));
        Museums.taken("12: a THING in a ROW's stead", x, 1, y -> y.show(2, 0));
        refused("12: that ROW is gone, too", x, -2, y -> y.set(2, 0, 1));
    }

    // ---- promise 13: "NONE NOTHING, or no such SHELF; the number of a THING; 100 and the SORT of a ROW" ----

    private static void holds() {
        MuseumFlight x = Museums.ahead();
        for (int none : NO_SHELVES) {
            Museums.seen("13: no such SHELF " + none, x, -1, y -> y.holds(none));
        }
        Museums.seen("13: NOTHING", x, -1, y -> y.holds(7));
        Museums.seen("13: THING 0", x, 0, y -> y.holds(1));
        Museums.seen("13: a ROW of bytes", x, 100, y -> y.holds(0));
        Museums.seen("13: a ROW of ints", x, 102, y -> y.holds(2));
        MuseumFlight full = new MuseumFlight();
        for (int i = 0; i < 16; i++) {
            full.thing(0, 1 + i, 1, 1, 0);
        }
        full.show(0, 15);
        Museums.seen("13: THING 15", full, 15, y -> y.holds(0));
        Museums.seen("14: WORTH of THING 15", full, 16, y -> y.worthIn(0));
    }

    // ---- promise 14: "-1; -2; -3" ----

    private static void worths() {
        MuseumFlight x = Museums.ahead();
        for (int none : NO_SHELVES) {
            refused("14: -1 no SHELF " + none, x, -1, y -> y.worthIn(none));
        }
        refused("14: -2 a ROW", x, -2, y -> y.worthIn(0));
        x.row(5, 3, 0);
        refused("14: -2 an empty ROW", x, -2, y -> y.worthIn(5));
        refused("14: -3 NOTHING", x, -3, y -> y.worthIn(7));
        Museums.seen("14: WORTH", x, 10, y -> y.worthIn(1));
        x.show(0, 2);
        Museums.seen("14: WORTH in a ROW's stead", x, 30, y -> y.worthIn(0));
    }

    /** No SHELF asks what time it is. */
    private static void atAnyTime() {
        for (MuseumFlight x : new MuseumFlight[] {Museums.ahead(), Museums.inTheHours(), Museums.inTheYears()}) {
            Museums.taken("8: row at any time", x, 1, y -> y.row(3, 0, 4));
            Museums.taken("9: set at any time", x, 1, y -> y.set(3, 3, 8));
            Museums.taken("10: copy at any time", x, 1, y -> y.copy(3, 3, 3, 0, 1));
            Museums.seen("11: element at any time", x, 8, y -> y.element(3, 0));
            for (int i = 0; i < 3; i++) {
                int thing = i;
                Museums.taken("12: a THING, wherever it is", x, 1, y -> y.show(4, thing));
                Museums.seen("14: WORTH, wherever it is", x, 10 + 10 * i, y -> y.worthIn(4));
            }
        }
    }
}
