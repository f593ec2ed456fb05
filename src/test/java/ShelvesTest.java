/** Promises 8 to 14: SHELVES. */
public final class ShelvesTest {
    public static void main(String[] args) {
        rows();
        sets();
        copies();
        elements();
        shows();
        worths();
        Check.end();
    }

    /** Promises 8 and 13. */
    private static void rows() {
        MuseumFlight x = new MuseumFlight();
        Check.due("row -1", x.row(-1, 0, 1), -1);
        Check.due("row 8", x.row(8, 0, 1), -1);
        Check.due("row nobody first", x.row(8, 9, -1), -1);
        Check.due("row below", x.row(0, 0, -1), -4);
        Check.due("row below ahead of wrong", x.row(0, 9, -1), -4);
        Check.due("row sort -1", x.row(0, -1, 1), -6);
        Check.due("row sort 4", x.row(0, 4, 1), -6);
        Check.due("row wrong ahead of room", x.row(0, 4, 61), -6);
        Check.due("row 61", x.row(0, 0, 61), -7);
        Check.due("row too long by far", x.row(0, 0, Integer.MAX_VALUE), -7);
        Check.due("holds nothing still", x.holds(0), -1);
        for (int sort = 0; sort < 4; sort++) {
            Check.due("row", x.row(sort, sort, 60), 1);
            Check.due("holds", x.holds(sort), 100 + sort);
        }
        Check.due("row of none", x.row(7, 1, 0), 1);
        Check.due("holds", x.holds(7), 101);
        Check.due("no element", x.set(7, 0, 1), -5);
        Check.due("holds -1", x.holds(-1), -1);
        Check.due("holds 8", x.holds(8), -1);
        x.set(0, 59, 7);
        x.row(0, 0, 60);
        Check.due("a new ROW has 0", x.element(0, 59), 0);
        x.set(0, 1, 7);
        x.row(0, 0, 1);
        x.row(0, 0, 2);
        Check.due("a longer new ROW has 0", x.element(0, 1), 0);
        Check.due("refused: nobody", x.status(11), 3);
        Check.due("refused: below", x.status(14), 2);
        Check.due("refused: beyond", x.status(15), 1);
        Check.due("refused: wrong", x.status(16), 3);
        Check.due("refused: room", x.status(17), 2);
    }

    /** Promise 9. */
    private static void sets() {
        MuseumFlight x = new MuseumFlight();
        long v = 0x123456789ABCDEF0L;
        long[] wants = {(byte) 0xF0, (short) 0xDEF0, 0x9ABCDEF0, v};
        for (int sort = 0; sort < 4; sort++) {
            x.row(sort, sort, 3);
            Check.due("set", x.set(sort, 2, v), 1);
            Check.due("lowest bits", x.element(sort, 2), wants[sort]);
            Check.due("the others", x.element(sort, 1), 0);
        }
        x.set(0, 0, 128);
        Check.due("bytes have a sign", x.element(0, 0), -128);
        x.set(1, 0, 32768);
        Check.due("shorts have a sign", x.element(1, 0), -32768);
        x.thing(0, 1, 1, 1, 0);
        x.show(4, 0);
        Check.due("set -1", x.set(-1, 0, 1), -1);
        Check.due("set 8", x.set(8, 0, 1), -1);
        Check.due("set in a thing", x.set(4, 0, 1), -2);
        Check.due("set in nothing", x.set(5, -1, 1), -3);
        Check.due("set -1", x.set(0, -1, 1), -5);
        Check.due("set 3", x.set(0, 3, 1), -5);
    }

    /** Promise 10. */
    private static void copies() {
        MuseumFlight x = new MuseumFlight();
        for (int s = 0; s < 2; s++) {
            x.row(s, 2, 5);
            for (int i = 0; i < 5; i++) {
                x.set(s, i, 10 * s + i);
            }
        }
        Check.due("copy", x.copy(0, 1, 1, 2, 3), 1);
        row(x, 1, 10, 11, 1, 2, 3);
        row(x, 0, 0, 1, 2, 3, 4);
        Check.due("copy on itself, up", x.copy(0, 0, 0, 1, 4), 1);
        row(x, 0, 0, 0, 1, 2, 3);
        Check.due("copy on itself, down", x.copy(0, 0, 2, 0, 3), 1);
        row(x, 0, 1, 2, 3, 2, 3);
        Check.due("copy none", x.copy(0, 1, 5, 5, 0), 1);
        x.row(2, 1, 5);
        x.thing(0, 1, 1, 1, 0);
        x.show(3, 0);
        Check.due("copy nobody p", x.copy(8, 3, -1, -1, -1), -1);
        Check.due("copy nobody q", x.copy(3, -1, -1, -1, -1), -1);
        Check.due("copy thing p", x.copy(3, 4, -1, -1, -1), -2);
        Check.due("copy thing q", x.copy(4, 3, -1, -1, -1), -2);
        Check.due("copy two sorts", x.copy(0, 2, -1, -1, -1), -2);
        Check.due("copy nothing p", x.copy(4, 0, -1, -1, -1), -3);
        Check.due("copy nothing q", x.copy(0, 4, -1, -1, -1), -3);
        Check.due("copy below", x.copy(0, 1, -1, -1, -1), -4);
        Check.due("copy i below 0", x.copy(0, 1, -1, 0, 1), -5);
        Check.due("copy j below 0", x.copy(0, 1, 0, -1, 1), -5);
        Check.due("copy end of p", x.copy(0, 1, 3, 0, 3), -5);
        Check.due("copy end of q", x.copy(0, 1, 0, 3, 3), -5);
        Check.due("copy none beyond", x.copy(0, 1, 6, 0, 0), -5);
        Check.due("copy by far", x.copy(0, 1, 5, 0, Integer.MAX_VALUE), -5);
        Check.due("copy by far i", x.copy(0, 1, Integer.MAX_VALUE, 0, 5), -5);
        Check.due("copy by far j", x.copy(0, 1, 0, Integer.MAX_VALUE, 1), -5);
        row(x, 1, 10, 11, 1, 2, 3);
        int[] refused = {2, 3, 2, 1, 8, 0, 0};
        for (int i = 0; i < 7; i++) {
            Check.due("refused " + i, x.status(11 + i), refused[i]);
        }
    }

    private static void row(MuseumFlight x, int s, long... wants) {
        for (int i = 0; i < wants.length; i++) {
            Check.due("element " + i + " of " + s, x.element(s, i), wants[i]);
        }
    }

    /** Promise 11. */
    private static void elements() {
        MuseumFlight x = new MuseumFlight();
        x.row(0, 3, 2);
        x.set(0, 0, Long.MIN_VALUE);
        x.set(0, 1, Long.MAX_VALUE);
        row(x, 0, Long.MIN_VALUE, Long.MAX_VALUE, 0);
        Check.due("element -1", x.element(0, -1), 0);
        Check.due("element of nothing", x.element(1, 0), 0);
        Check.due("element of shelf 8", x.element(8, 0), 0);
        Check.due("element of shelf -1", x.element(-1, 0), 0);
        x.thing(0, 1, 1, 1, 0);
        x.show(0, 0);
        Check.due("element of a thing", x.element(0, 0), 0);
        for (int i = 11; i <= 17; i++) {
            Check.due("nothing is refused", x.status(i), 0);
        }
    }

    /** Promises 12 and 13. */
    private static void shows() {
        MuseumFlight x = new MuseumFlight();
        x.thing(0, 1, 1, 1, 0);
        x.thing(0, 1, 1, 1, 0);
        Check.due("show", x.show(0, 1), 1);
        Check.due("holds", x.holds(0), 1);
        Check.due("show another", x.show(0, 0), 1);
        Check.due("holds", x.holds(0), 0);
        Check.due("show shelf -1", x.show(-1, 0), -1);
        Check.due("show shelf 8", x.show(8, -1), -1);
        Check.due("show thing 2", x.show(0, 2), -1);
        Check.due("show thing -2", x.show(0, -2), -1);
        Check.due("holds still", x.holds(0), 0);
        Check.due("show nothing", x.show(0, -1), 0);
        Check.due("holds nothing", x.holds(0), -1);
        x.row(1, 3, 4);
        x.show(1, 1);
        Check.due("a thing in a row's stead", x.holds(1), 1);
        x.row(1, 2, 4);
        Check.due("a row in a thing's stead", x.holds(1), 102);
        x.show(1, -1);
        Check.due("nothing in a row's stead", x.set(1, 0, 1), -3);
        Check.due("refused", x.status(11), 4);
    }

    /** Promise 14. */
    private static void worths() {
        MuseumFlight x = new MuseumFlight();
        x.thing(0, 12, 1, 1, 0);
        x.thing(0, 100, 1, 1, 0);
        x.show(0, 1);
        x.row(1, 0, 0);
        Check.due("worthIn", x.worthIn(0), 100);
        x.show(0, 0);
        Check.due("worthIn", x.worthIn(0), 12);
        Check.due("worthIn -1", x.worthIn(-1), -1);
        Check.due("worthIn 8", x.worthIn(8), -1);
        Check.due("worthIn row", x.worthIn(1), -2);
        Check.due("worthIn nothing", x.worthIn(2), -3);
    }
}
