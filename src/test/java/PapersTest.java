/** Promises 35 to 42: PAPERS, what is given back, SEALS, lists in three copies, and how many there are. */
public final class PapersTest {
    public static void main(String[] args) {
        papers();
        givenBack();
        abouts();
        seals();
        quarrels();
        said();
        status();
        Check.end();
    }

    /** Promises 35 and 36. */
    private static void papers() {
        MuseumFlight x = new MuseumFlight();
        Check.due("paper of nobody", x.paper(0, 10, 5, 4), -1);
        x.thing(0, 1, 1, 1, 0);
        x.thing(0, 1, 1, 1, 0);
        for (int i = 0; i < 6; i++) {
            x.paper(1, 2, i, i);
            Check.due("paper " + i, x.holder(1, i), 2);
        }
        x.thing(0, 1, 1, 1, 0);
        Check.due("who -1", x.paper(0, -1, 0, 0), -6);
        Check.due("who 10", x.paper(0, 10, 0, 0), -6);
        Check.due("from -1", x.paper(0, 1, -1, 0), -6);
        Check.due("to 201", x.paper(0, 1, 0, 201), -6);
        Check.due("turned", x.paper(0, 1, 3, 2), -6);
        Check.due("none told", x.holder(0, 0), -1);
        Check.due("paper", x.paper(0, 9, 0, 200), 1);
        for (int y = 0; y <= 200; y += 100) {
            Check.due("holder " + y, x.holder(0, y), 9);
        }
        Check.due("holder -1", x.holder(0, -1), -1);
        Check.due("holder 201", x.holder(0, 201), -1);
        Check.due("holder of the other", x.holder(1, 100), -1);
        Check.due("paper", x.paper(0, 0, 50, 50), 2);
        Check.due("holder 49", x.holder(0, 49), 9);
        Check.due("two unlike", x.holder(0, 50), 100);
        Check.due("holder 51", x.holder(0, 51), 9);
        Check.due("paper", x.paper(0, 9, 50, 60), 3);
        Check.due("two unlike still", x.holder(0, 50), 100);
        Check.due("two alike", x.holder(0, 55), 9);
        Check.due("holder 201 still", x.holder(0, 201), -1);
        Check.due("paper", x.paper(0, 0, 1, 2), 4);
        Check.due("paper", x.paper(0, 0, 1, 2), 5);
        Check.due("paper", x.paper(0, 9, 3, 4), 6);
        Check.due("the sixth counts", x.holder(0, 3), 9);
        Check.due("paper 7", x.paper(0, 0, 1, 2), -7);
        Check.due("paper wrong ahead of room", x.paper(0, 10, 1, 2), -6);
        Check.due("of the other", x.paper(2, 0, 7, 8), 1);
        Check.due("WHO 0", x.holder(2, 7), 0);
        Check.due("papers", x.about(0, 7), 6);
        Check.due("no such thing", x.holder(3, 7), -1);
        Check.due("no such thing", x.holder(-1, 7), -1);
        Check.due("refused nobody", x.status(11), 1);
    }

    /** Promise 37. */
    private static void givenBack() {
        MuseumFlight x = new MuseumFlight();
        x.thing(0, 1, 1, 1, 0);
        x.paper(0, 1, 0, 9);
        Check.due("giveBack ahead of the ALARM", x.giveBack(0, 5), -6);
        x.alarm(4);
        Check.due("giveBack in the HOURS", x.giveBack(0, 5), -6);
        x.minutes(4);
        Check.due("giveBack of a LOST one", x.giveBack(0, 5), -6);
        x.found(0);
        Check.due("giveBack nobody", x.giveBack(1, 5), -1);
        Check.due("giveBack nobody", x.giveBack(-1, 5), -1);
        Check.due("giveBack without a HOLDER", x.giveBack(0, 10), -6);
        x.paper(0, 7, 9, 9);
        Check.due("giveBack with two", x.giveBack(0, 9), -6);
        x.weeks(2);
        Check.due("giveBack", x.giveBack(0, 8), 1);
        Check.due("where", x.about(0, 0), 601);
        Check.due("seal TIME", x.seal(0, 2, 0), 1002);
        Check.due("seal from", x.seal(0, 2, 1), 300);
        Check.due("seal to", x.seal(0, 2, 2), 601);
        Check.due("given back already", x.giveBack(0, 8), -6);
        Check.due("not found, as it isn't LOST", x.found(0), -6);
        Check.due("how many", x.status(9), 1);
        MuseumFlight y = YearsTest.inTheYard(new int[] {0}, new int[] {1});
        y.place(3, 1, 1);
        y.fuel(9);
        y.move(0, 0);
        y.paper(0, 0, 0, 0);
        Check.due("giveBack out of a PLACE", y.giveBack(0, 0), 0);
        Check.due("where", y.about(0, 0), 600);
        Check.due("seal from", y.seal(0, 3, 1), 400);
        Check.due("it isn't struck", y.lose(1), 0);
        Check.due("it isn't moved", y.move(0, 0), -6);
        Check.due("it isn't spread", y.spread(false), 0);
    }

    /** Promise 38. */
    private static void abouts() {
        MuseumFlight x = new MuseumFlight();
        x.thing(2, 33, 4, 7, 11);
        int[] wants = {107, 2, 33, 4, 11, 0, 0, 0};
        for (int what = 0; what < 8; what++) {
            Check.due("about " + what, x.about(0, what), wants[what]);
        }
        Check.due("about -1", x.about(0, -1), -1);
        Check.due("about 8", x.about(0, 8), -1);
        Check.due("about no thing", x.about(1, 1), -1);
        Check.due("about no thing", x.about(-1, 1), -1);
    }

    /** Promise 39: as many SEALS as 500 calls can make. */
    private static void seals() {
        MuseumFlight x = YearsTest.inTheYard(new int[] {0}, new int[] {1});
        x.place(1, 0, 1);
        x.place(1, 0, 1);
        x.fuel(10000);
        for (int i = 0; i < 490; i++) {
            x.move(0, i % 2);
        }
        Check.due("seals", x.about(0, 6), 492);
        Check.due("from", x.seal(0, 2, 1), 300);
        for (int i = 1; i < 490; i++) {
            Check.due("seal " + i + " from", x.seal(0, 2 + i, 1), 401 - i % 2);
            Check.due("seal " + i + " to", x.seal(0, 2 + i, 2), 400 + i % 2);
            Check.due("seal " + i + " time", x.seal(0, 2 + i, 0), 1000);
        }
        Check.due("no seal", x.seal(0, 492, 0), -1);
        Check.due("seal -1", x.seal(0, -1, 0), -1);
        Check.due("what -1", x.seal(0, 1, -1), -1);
        Check.due("what 3", x.seal(0, 0, 3), -1);
        Check.due("no thing", x.seal(1, 0, 0), -1);
        Check.due("no thing", x.seal(-1, 0, 0), -1);
    }

    private static void list(MuseumFlight x, int s, int sort, long... numbers) {
        x.row(s, sort, numbers.length);
        for (int i = 0; i < numbers.length; i++) {
            x.set(s, i, numbers[i]);
        }
    }

    private static MuseumFlight withThings(int n) {
        MuseumFlight x = new MuseumFlight();
        for (int i = 0; i < n; i++) {
            x.thing(0, 1, 1, 1, 0);
        }
        return x;
    }

    /** Promise 40. */
    private static void quarrels() {
        MuseumFlight x = withThings(5);
        list(x, 0, 0, 1, 2, 3, -1, 5, 9);
        list(x, 1, 1, 1, 2, 4, -1, 6, 8);
        list(x, 2, 3, 1, 3, 5, -1, 5, 7);
        Check.due("quarrel: 0, 1, 2, 0, 1", x.quarrel(0, 1, 2), 4);
        Check.due("in another order", x.quarrel(2, 0, 1), 4);
        Check.due("with itself", x.quarrel(0, 0, 0), 0);
        Check.due("twice the same", x.quarrel(0, 1, 0), 2);
        list(x, 3, 3, 1, 2, 3, -1);
        list(x, 4, 3, 1, 2);
        list(x, 5, 3);
        Check.due("one isn't there", x.quarrel(3, 0, 0), 1);
        Check.due("one, and two", x.quarrel(0, 3, 4), 0 + 0 + 1 + 1 + 2);
        Check.due("none at all is there", x.quarrel(5, 5, 5), 15);
        Check.due("two aren't there", x.quarrel(0, 5, 5), 10);
        Check.due("two unlike, and one isn't there", x.quarrel(0, 1, 5), 1 + 1 + 2 + 1 + 2);
        list(x, 4, 3, 257, 2, 3, -1, 5);
        Check.due("numbers as longs", x.quarrel(0, 0, 4), 1);
        x.show(6, 0);
        Check.due("nobody first", x.quarrel(6, 7, 8), -1);
        Check.due("nobody", x.quarrel(-1, 0, 0), -1);
        Check.due("nobody", x.quarrel(0, 8, 0), -1);
        Check.due("a thing", x.quarrel(7, 6, 0), -2);
        Check.due("a thing", x.quarrel(6, 0, 0), -2);
        Check.due("a thing", x.quarrel(0, 0, 6), -2);
        Check.due("nothing", x.quarrel(7, 0, 0), -3);
        Check.due("nothing", x.quarrel(0, 7, 0), -3);
        Check.due("nothing", x.quarrel(0, 0, 7), -3);
        MuseumFlight y = new MuseumFlight();
        list(y, 0, 0, 1);
        list(y, 1, 0, 2);
        Check.due("without THINGS", y.quarrel(0, 1, 1), 0);
    }

    /** Promise 41. */
    private static void said() {
        MuseumFlight x = withThings(5);
        list(x, 0, 3, 1, 1, 7, 1, Long.MIN_VALUE);
        list(x, 1, 3, 1, 2, 7, 2, 3);
        list(x, 2, 3, 2, 1, 7, 3, Long.MIN_VALUE);
        Check.due("a and b", x.said(0, 1, 2, 0), 1);
        Check.due("a and c", x.said(0, 1, 2, 1), 1);
        Check.due("b and c", x.said(2, 1, 0, 0), 1);
        Check.due("all", x.said(0, 1, 2, 2), 7);
        Check.due("no two", x.said(0, 1, 2, 3), -1);
        Check.due("longs", x.said(0, 1, 2, 4), Long.MIN_VALUE);
        Check.due("no thing", x.said(0, 1, 2, 5), -1);
        Check.due("no thing", x.said(0, 1, 2, -1), -1);
        list(x, 3, 0, 1);
        list(x, 4, 1, 1);
        Check.due("two that have it", x.said(3, 4, 2, 0), 1);
        Check.due("none has it", x.said(3, 4, 3, 1), -1);
        Check.due("one has it", x.said(3, 4, 0, 1), -1);
        x.show(5, 0);
        for (int s : new int[] {5, 6, 8, -1}) {
            Check.due("no row a", x.said(s, 0, 0, 2), -1);
            Check.due("no row b", x.said(0, s, 0, 2), -1);
            Check.due("no row c", x.said(0, 0, s, 2), -1);
        }
        for (int i = 11; i <= 17; i++) {
            Check.due("nothing is refused", x.status(i), 0);
        }
    }

    /** Promise 42. */
    private static void status() {
        MuseumFlight x = new MuseumFlight();
        x.door(0, 1, 1);
        x.door(0, 2, 1);
        x.team(1);
        for (int i = 0; i < 7; i++) {
            x.thing(0, 1, 1, 1, 0);
        }
        x.thing(0, 1, 1, 9, 0);
        x.place(9, 1, 1);
        x.place(9, 2, 1);
        x.place(9, 3, 1);
        x.alarm(100);
        x.minutes(5);
        int[] hours = {8, 2, 1, 3, 5, 1, 2, 0, 0, 0, 1, 0, 0, 0, 0, 0, 0, 0, 5, 0, 0};
        for (int what = 0; what < hours.length; what++) {
            Check.due("in the HOURS: status " + what, x.status(what), hours[what]);
        }
        x.minutes(100);
        x.fuel(10);
        x.move(0, 0);
        x.move(1, 0);
        x.move(2, 1);
        x.lose(2);
        x.paper(3, 4, 5, 6);
        x.giveBack(3, 5);
        x.weeks(9);
        x.far(99);
        x.quarrel(8, 0, 0);
        x.show(0, 0);
        x.set(0, 0, 0);
        x.set(1, 0, 0);
        x.row(1, 9, -1);
        x.row(1, 0, 0);
        x.set(1, 0, 0);
        x.weeks(0);
        x.row(2, 0, 61);
        int[] years = {8, 2, 1, 3, 0, 0, 3, 2, 2, 1, 2, 1, 1, 1, 1, 1, 1, 1, 100, 9, 7};
        for (int what = 0; what < years.length; what++) {
            Check.due("in the YEARS: status " + what, x.status(what), years[what]);
        }
        Check.due("status -1", x.status(-1), -1);
        Check.due("status 21", x.status(21), -1);
        Check.due("status far on", x.status(Integer.MIN_VALUE), -1);
    }
}
