/** Promises 1 to 7 and 21: what is told ahead of the ALARM. */
public final class HouseTest {
    public static void main(String[] args) {
        newObject();
        doors();
        teams();
        things();
        labels();
        faults();
        dangers();
        ways();
        Check.end();
    }

    /** Promise 1. */
    private static void newObject() {
        MuseumFlight x = new MuseumFlight();
        for (int what = 0; what <= 20; what++) {
            Check.due("new: status " + what, x.status(what), 0);
        }
        for (int s = 0; s < 8; s++) {
            Check.due("new: holds " + s, x.holds(s), -1);
        }
        Check.due("new: far(0)", x.far(0), 0);
        for (int r = 1; r < 12; r++) {
            Check.due("new: far " + r, x.far(r), -1);
        }
        Check.due("new: fault", x.fault(), -1);
        Check.due("new: given", x.given(0), -1);
        Check.due("new: about", x.about(0, 0), -1);
        Check.due("new: NONE", MuseumFlight.NONE, -1);
        new MuseumFlight().door(0, 1, 1);
        Check.due("new: objects are apart", x.status(1), 0);
    }

    /** Promise 2. */
    private static void doors() {
        MuseumFlight x = new MuseumFlight();
        Check.due("door -1 a", x.door(-1, 1, 1), -1);
        Check.due("door 12 a", x.door(12, 1, 1), -1);
        Check.due("door -1 b", x.door(1, -1, 1), -1);
        Check.due("door 12 b", x.door(1, 12, 1), -1);
        Check.due("door nobody ahead of wrong", x.door(12, 12, 0), -1);
        Check.due("door a is b", x.door(3, 3, 1), -6);
        Check.due("door 0 minutes", x.door(1, 2, 0), -6);
        Check.due("door 10 minutes", x.door(1, 2, 10), -6);
        for (int i = 0; i < 20; i++) {
            Check.due("door " + i, x.door(i % 11, 11, 1 + i % 9), i);
        }
        Check.due("door 20", x.door(0, 1, 1), -7);
        Check.due("door wrong ahead of room", x.door(0, 1, 10), -6);
        Check.due("doors", x.status(1), 20);
        Check.due("refused nobody", x.status(11), 5);
        Check.due("refused wrong", x.status(16), 4);
        Check.due("refused room", x.status(17), 1);
        MuseumFlight y = new MuseumFlight();
        y.alarm(10);
        Check.due("door behind the ALARM", y.door(0, 1, 1), -6);
        Check.due("door behind the ALARM, nobody first", y.door(0, 12, 1), -1);
    }

    /** Promise 3. */
    private static void teams() {
        MuseumFlight x = new MuseumFlight();
        Check.due("team 0 hands", x.team(0), -6);
        Check.due("team 5 hands", x.team(5), -6);
        Check.due("team a", x.team(1), 0);
        Check.due("team b", x.team(4), 1);
        Check.due("team c", x.team(2), 2);
        Check.due("team d", x.team(2), -7);
        Check.due("team wrong ahead of room", x.team(9), -6);
        Check.due("teams", x.status(2), 3);
        MuseumFlight y = new MuseumFlight();
        y.alarm(1);
        Check.due("team behind the ALARM", y.team(2), -6);
        y.minutes(1);
        Check.due("team in the YEARS", y.team(2), -6);
    }

    /** Promise 4. */
    private static void things() {
        MuseumFlight x = new MuseumFlight();
        int[][] refused = {
            {-1, 1, 1, 1, 0, -1}, {4, 1, 1, 1, 0, -1}, {0, 1, 1, 0, 0, -1}, {0, 1, 1, 12, 0, -1}, {0, 1, 1, -1, 0, -1},
            {0, 0, 1, 1, 0, -6}, {0, 101, 1, 1, 0, -6}, {0, 1, 0, 1, 0, -6}, {0, 1, 5, 1, 0, -6},
            {0, 1, 1, 1, -1, -6}, {0, 1, 1, 1, 21, -6}, {4, 0, 0, 0, -1, -1},
        };
        for (int[] r : refused) {
            Check.due("thing refused", x.thing(r[0], r[1], r[2], r[3], r[4]), r[5]);
        }
        Check.due("no thing yet", x.status(0), 0);
        for (int i = 0; i < 16; i++) {
            int room = 1 + i % 11;
            Check.due("thing " + i, x.thing(i % 4, 85 + i, 1 + i % 4, room, 5 + i), i);
            Check.due("where", x.about(i, 0), 100 + room);
            Check.due("kind", x.about(i, 1), i % 4);
            Check.due("worth", x.about(i, 2), 85 + i);
            Check.due("hands", x.about(i, 3), 1 + i % 4);
            Check.due("pack", x.about(i, 4), 5 + i);
        }
        Check.due("thing 16", x.thing(0, 1, 1, 1, 0), -7);
        Check.due("thing wrong ahead of room", x.thing(0, 0, 1, 1, 0), -6);
        Check.due("show the last", x.show(0, 15), 1);
        Check.due("label of the last", x.label(0), -2);
        MuseumFlight y = new MuseumFlight();
        y.alarm(1);
        Check.due("thing behind the ALARM", y.thing(0, 1, 1, 1, 0), -6);
    }

    static void write(MuseumFlight x, int s, int sort, String text) {
        x.row(s, sort, text.length());
        for (int i = 0; i < text.length(); i++) {
            x.set(s, i, text.charAt(i));
        }
    }

    /** Promise 5. */
    private static void labels() {
        MuseumFlight x = new MuseumFlight();
        Check.due("label -1", x.label(-1), -1);
        Check.due("label 8", x.label(8), -1);
        Check.due("label nothing", x.label(0), -3);
        write(x, 1, 0, "k3w100h4r11p20");
        Check.due("label", x.label(1), 0);
        int[] wants = {111, 3, 100, 4, 20, 0, 0, 0};
        for (int what = 0; what < 8; what++) {
            Check.due("label: about " + what, x.about(0, what), wants[what]);
        }
        x.show(2, 0);
        Check.due("label of a thing", x.label(2), -2);
        String[] good = {"k0w1h1r1p0", "k2w75h3r10p5", "k1w99h2r9p19", "k1w10h2r2p10"};
        for (int i = 0; i < good.length; i++) {
            write(x, 3, i, good[i]);
            Check.due("label " + good[i], x.label(3), i + 1);
            Check.due("no fault", x.fault(), -1);
        }
        Check.due("worth by label", x.about(2, 2), 75);
        Check.due("room by label", x.about(2, 0), 110);
        Check.due("pack by label", x.about(2, 4), 5);
        for (int i = 5; i < 16; i++) {
            x.label(3);
        }
        Check.due("things", x.status(0), 16);
        Check.due("label 16", x.label(3), -7);
        write(x, 3, 0, "k4");
        Check.due("fault ahead of room", x.label(3), -6);
        MuseumFlight y = new MuseumFlight();
        write(y, 0, 0, good[0]);
        y.alarm(2);
        Check.due("label behind the ALARM", y.label(0), -6);
        Check.due("... it was a LABEL", y.fault(), -1);
    }

    /** Promise 6. */
    private static void faults() {
        MuseumFlight x = new MuseumFlight();
        Object[][] rows = {
            {"", 0}, {"k", 1}, {"x", 0}, {"K0", 0}, {"k4", 1}, {"k-", 1}, {"k0", 2}, {"k00", 2}, {"k0h", 2}, {"k0w", 3},
            {"k0w0", 3}, {"k0w01", 3}, {"k0w101", 5}, {"k0w100", 6}, {"k0w1000", 6}, {"k0w100h", 7}, {"k0w110h", 5},
            {"k0w55r", 5}, {"k0w5h0", 5}, {"k0w5h5", 5}, {"k0w5h44", 6}, {"k0w5h4", 6}, {"k0w5h4r0", 7},
            {"k0w5h4r12p0", 8}, {"k0w5h4r111p0", 9}, {"k0w5h4r2", 8}, {"k0w5h4r20p0", 8}, {"k0w5h4r1p", 9},
            {"k0w5h4r1p01", 10}, {"k0w5h4r1p21", 10}, {"k0w5h4r1p30", 10}, {"k0w5h4r1p200", 11}, {"k0w5h4r1p20k", 11},
            {"k0w5h4r1px", 9}, {"kk", 1}, {"w5", 0}, {"k0w5h4p1", 6},
        };
        for (Object[] r : rows) {
            write(x, 0, 1, (String) r[0]);
            Check.due("label " + r[0], x.label(0), -6);
            Check.due("fault of " + r[0], x.fault(), (Integer) r[1]);
        }
        Check.due("no thing by a faulty label", x.status(0), 0);
        write(x, 0, 0, "k0w5");
        x.label(0);
        Check.due("label nowhere", x.label(8), -1);
        Check.due("label of nothing", x.label(1), -3);
        Check.due("fault stays", x.fault(), 4);
        write(x, 0, 3, "k0w1h1r1p0");
        x.set(0, 0, (7L << 32) + 'k');
        Check.due("label of longs: lowest 32 bits", x.label(0), 0);
        Check.due("fault: it was a LABEL", x.fault(), -1);
        x.set(0, 0, (1L << 31) + 'k');
        Check.due("label of longs: bit 31 counts", x.label(0), -6);
        Check.due("fault 0", x.fault(), 0);
        write(x, 0, 2, "k0w1h1r1p0");
        x.set(0, 3, '1' + 65536);
        x.label(0);
        Check.due("ints are not cut", x.fault(), 3);
        x.alarm(5);
        write(x, 0, 2, "k0w1h");
        Check.due("label behind the ALARM", x.label(0), -6);
        Check.due("fault behind the ALARM", x.fault(), 5);
    }

    /** Promise 7. */
    private static void dangers() {
        MuseumFlight x = new MuseumFlight();
        Check.due("danger 0", x.danger(0, 5), -1);
        Check.due("danger -1", x.danger(-1, 5), -1);
        Check.due("danger 12", x.danger(12, 5), -1);
        Check.due("danger nobody first", x.danger(12, 500), -1);
        Check.due("all of them refused", x.status(11), 4);
        Check.due("danger 11", x.danger(11, 7), -1);
        Check.due("danger 11 was", x.danger(11, -1), 7);
        Check.due("none of them refused", x.status(11), 4);
        Check.due("danger minute -2", x.danger(1, -2), -6);
        Check.due("danger minute 241", x.danger(1, 241), -6);
        Check.due("danger at first", x.danger(1, 0), -1);
        Check.due("danger was 0", x.danger(1, 240), 0);
        Check.due("danger was 240", x.danger(1, -1), 240);
        Check.due("danger was none", x.danger(1, 30), -1);
        x.door(0, 1, 2);
        x.team(1);
        x.thing(0, 5, 1, 1, 1);
        Check.due("in time", x.alarm(60), 5);
        x.late(0, 20);
        x.minutes(10);
        Check.due("danger below NOW", x.danger(1, 9), -6);
        Check.due("still given", x.given(0), 0);
        Check.due("danger at NOW", x.danger(1, 10), 30);
        Check.due("THE PLAN is made anew", x.given(0), -1);
        Check.due("never, in the HOURS", x.danger(1, -1), 10);
        Check.due("THE PLAN is made anew again", x.given(0), 0);
        Check.due("danger, a minute too early", x.danger(1, 22), -1);
        Check.due("it can't be begun", x.begins(0), -1);
        Check.due("danger, in time", x.danger(1, 23), 22);
        Check.due("it can be begun", x.begins(0), 20);
        x.minutes(50);
        Check.due("danger in the YEARS", x.danger(1, 70), -6);
        Check.due("refused", x.status(16), 4);
    }

    /** Promise 21. */
    private static void ways() {
        MuseumFlight x = new MuseumFlight();
        x.door(11, 0, 9);
        x.door(11, 5, 9);
        x.door(5, 6, 9);
        Check.due("far 6", x.far(6), 27);
        x.door(0, 1, 1);
        x.door(1, 2, 1);
        x.door(2, 3, 1);
        x.door(3, 4, 1);
        x.door(6, 4, 2);
        Check.due("far 6 by the other way", x.far(6), 6);
        Check.due("far 5", x.far(5), 15);
        Check.due("far 11", x.far(11), 9);
        x.door(4, 3, 9);
        Check.due("the lesser of two DOORS", x.far(4), 4);
        x.block(6);
        Check.due("far 4 by the longer DOOR", x.far(4), 12);
        Check.due("far 6 now", x.far(6), 14);
        Check.due("far -1", x.far(-1), -1);
        Check.due("far 12", x.far(12), -1);
        Check.due("no way", x.far(7), -1);
        x.block(0);
        x.block(3);
        Check.due("no way any more", x.far(1), -1);
        Check.due("the GATE", x.far(0), 0);
        Check.due("nothing refused", x.status(11), 0);
        MuseumFlight chain = new MuseumFlight();
        for (int r = 11; r > 0; r--) {
            chain.door(r, r - 1, 9);
        }
        Check.due("through all ROOMS", chain.far(11), 99);
    }
}
