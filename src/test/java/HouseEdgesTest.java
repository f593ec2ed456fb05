/** Promises 1 to 7 and 21, sentence by sentence: the edges that the document names, on both sides. */
public final class HouseEdgesTest {
    private static final int MIN = Museums.MIN;
    private static final int MAX = Museums.MAX;
    private static final int[] NO_ROOMS = {-1, 12, MIN, MAX};

    public static void main(String[] args) {
        anEmptyMuseum();
        aheadOfTheAlarm();
        doorRooms();
        doorMinutes();
        doorsFull();
        doorOrder();
        teamHands();
        teamsFull();
        thingNobody();
        thingNumbers();
        thingsFull();
        labelNowhere();
        labelIsAThing();
        labelOrder();
        labelsOfEachSort();
        faultPlaces();
        faultOfTheLatest();
        dangerRooms();
        dangerMinutes();
        dangerInTheHours();
        dangerInTheYears();
        dangerIsNew();
        farOfRooms();
        farOfDoors();
        Check.end();
    }

    private static void refused(String what, MuseumFlight x, int due, java.util.function.ToLongFunction<MuseumFlight> call) {
        Museums.refused(what, x, due, call);
    }

    // ---- promise 1: "An empty museum, ahead of the ALARM." ----

    private static void anEmptyMuseum() {
        MuseumFlight x = new MuseumFlight();
        Check.due("1: NONE is -1", MuseumFlight.NONE, -1);
        for (int what = 0; what <= 20; what++) {
            int w = what;
            Museums.seen("1: an empty museum: status " + what, x, 0, y -> y.status(w));
        }
        for (int s = 0; s < 8; s++) {
            int shelf = s;
            Museums.seen("1: SHELVES hold NOTHING at first", x, -1, y -> y.holds(shelf));
            refused("1: no ROW at first", x, -3, y -> y.set(shelf, 0, 1));
        }
        Museums.seen("1: no FAULT yet", x, -1, MuseumFlight::fault);
        refused("1: no DOOR 0", x, -1, y -> y.block(0));
        refused("1: no TEAM 0", x, -1, y -> y.late(0, 1));
        refused("1: no THING 0", x, -1, y -> y.show(0, 0));
        refused("1: no PLACE 0", x, -1, y -> y.move(0, 0));
    }

    private static void aheadOfTheAlarm() {
        MuseumFlight x = new MuseumFlight();
        Check.due("1: ahead of the ALARM", x.status(10), 0);
        refused("1: no minutes yet", x, -6, y -> y.minutes(1));
        refused("1: no WEEKS yet", x, -6, y -> y.weeks(1));
        refused("1: no PLAN yet", x, -6, y -> y.plan(false));
        refused("1: no SPREAD yet", x, -6, y -> y.spread(false));
    }

    // ---- promise 2: "two unlike ROOMS, MINUTES 1 to 9", "20 at most" ----

    private static void doorRooms() {
        MuseumFlight x = new MuseumFlight();
        for (int none : NO_ROOMS) {
            refused("2: -1 no ROOM a " + none, x, -1, y -> y.door(none, 1, 1));
            refused("2: -1 no ROOM b " + none, x, -1, y -> y.door(1, none, 1));
            refused("2: -1 no ROOM at all " + none, x, -1, y -> y.door(none, none, 1));
        }
        for (int r = 0; r < 12; r++) {
            int room = r;
            refused("2: -6 a is b " + r, x, -6, y -> y.door(room, room, 1));
        }
        Museums.taken("2: ROOMS 0 and 11", x, 0, y -> y.door(0, 11, 1));
        Museums.taken("2: ROOMS 11 and 0", x, 1, y -> y.door(11, 0, 1));
        Museums.taken("2: the same ROOMS once more", x, 2, y -> y.door(11, 0, 1));
    }

    private static void doorMinutes() {
        MuseumFlight x = new MuseumFlight();
        for (int wrong : new int[] {0, 10, -1, MIN, MAX}) {
            refused("2: -6 MINUTES " + wrong, x, -6, y -> y.door(0, 1, wrong));
        }
        Museums.taken("2: MINUTES 9", x, 0, y -> y.door(0, 1, 9));
        Check.due("2: MINUTES 9: far", x.far(1), 9);
        Museums.taken("2: MINUTES 1", x, 1, y -> y.door(0, 1, 1));
        Check.due("2: MINUTES 1: far", x.far(1), 1);
    }

    private static void doorsFull() {
        MuseumFlight x = new MuseumFlight();
        for (int d = 0; d < 20; d++) {
            int number = d;
            Museums.taken("2: DOOR " + d, x, d, y -> y.door(number % 12, (number + 1) % 12, 1));
        }
        refused("2: -7 a 21st DOOR", x, -7, y -> y.door(0, 1, 1));
        refused("2: -6 a is b ahead of -7", x, -6, y -> y.door(1, 1, 1));
        refused("2: -6 MINUTES ahead of -7", x, -6, y -> y.door(0, 1, 10));
        refused("2: -1 ahead of -7", x, -1, y -> y.door(0, 12, 1));
        refused("2: a DOOR that isn't there", x, -1, y -> y.block(20));
        Museums.taken("2: the 20th DOOR is there", x, 0, y -> y.block(19));
        x.alarm(9);
        refused("2: -6 behind the ALARM ahead of -7", x, -6, y -> y.door(0, 1, 1));
    }

    private static void doorOrder() {
        MuseumFlight x = new MuseumFlight();
        refused("2: -1 ahead of -6 a is b", x, -1, y -> y.door(12, 12, 1));
        refused("2: -1 ahead of -6 MINUTES", x, -1, y -> y.door(0, -1, 0));
        refused("2: -6 in the HOURS", Museums.inTheHours(), -6, y -> y.door(0, 1, 1));
        refused("2: -1 ahead of -6 in the HOURS", Museums.inTheHours(), -1, y -> y.door(-1, 1, 1));
        refused("2: -6 in the YEARS", Museums.inTheYears(), -6, y -> y.door(0, 1, 1));
        refused("2: -1 ahead of -6 in the YEARS", Museums.inTheYears(), -1, y -> y.door(0, 12, 1));
    }

    // ---- promise 3: "HANDS 1 to 4", "3 at most" ----

    private static void teamHands() {
        for (int wrong : new int[] {0, 5, -1, MIN, MAX}) {
            refused("3: -6 HANDS " + wrong, new MuseumFlight(), -6, y -> y.team(wrong));
        }
        for (int hands = 1; hands <= 4; hands++) {
            int h = hands;
            MuseumFlight x = new MuseumFlight();
            Museums.taken("3: HANDS " + hands, x, 0, y -> y.team(h));
            x.door(0, 1, 1);
            x.thing(0, 1, 4, 1, 0);
            x.thing(0, 10, h, 1, 0);
            Check.due("3: as many HANDS " + hands, x.alarm(2), 10);
        }
        refused("3: -6 in the HOURS", Museums.inTheHours(), -6, y -> y.team(1));
        refused("3: -6 in the YEARS", Museums.inTheYears(), -6, y -> y.team(1));
    }

    private static void teamsFull() {
        MuseumFlight x = new MuseumFlight();
        for (int k = 0; k < 3; k++) {
            Museums.taken("3: TEAM " + k, x, k, y -> y.team(4));
        }
        refused("3: -7 a 4th TEAM", x, -7, y -> y.team(4));
        refused("3: -6 HANDS ahead of -7", x, -6, y -> y.team(0));
        x.alarm(9);
        refused("3: -6 behind the ALARM ahead of -7", x, -6, y -> y.team(4));
        Museums.taken("3: the 3rd TEAM is there", x, 0, y -> y.late(2, 1));
        refused("3: no 4th TEAM", x, -1, y -> y.late(3, 1));
    }

    // ---- promise 4: "a KIND 0 to 3, WORTH 1 to 100, HANDS 1 to 4, a ROOM 1 to 11, PACK 0 to 20", "16 at most" ----

    private static void thingNobody() {
        MuseumFlight x = new MuseumFlight();
        for (int none : new int[] {-1, 4, MIN, MAX}) {
            refused("4: -1 KIND " + none, x, -1, y -> y.thing(none, 1, 1, 1, 0));
            refused("4: -1 KIND ahead of -6", x, -1, y -> y.thing(none, 0, 0, 1, -1));
        }
        for (int none : new int[] {0, -1, 12, MIN, MAX}) {
            refused("4: -1 ROOM (0, too) " + none, x, -1, y -> y.thing(0, 1, 1, none, 0));
            refused("4: -1 ROOM ahead of -6", x, -1, y -> y.thing(0, 101, 5, none, 21));
        }
        refused("4: -1 ahead of -6 in the HOURS", Museums.inTheHours(), -1, y -> y.thing(0, 1, 1, 0, 0));
        refused("4: -1 ahead of -6 in the YEARS", Museums.inTheYears(), -1, y -> y.thing(4, 1, 1, 1, 0));
    }

    private static void thingNumbers() {
        MuseumFlight x = new MuseumFlight();
        for (int wrong : new int[] {0, 101, -1, MIN, MAX}) {
            refused("4: -6 WORTH " + wrong, x, -6, y -> y.thing(0, wrong, 1, 1, 0));
        }
        for (int wrong : new int[] {0, 5, -1, MIN, MAX}) {
            refused("4: -6 HANDS " + wrong, x, -6, y -> y.thing(0, 1, wrong, 1, 0));
        }
        for (int wrong : new int[] {-1, 21, MIN, MAX}) {
            refused("4: -6 PACK " + wrong, x, -6, y -> y.thing(0, 1, 1, 1, wrong));
        }
        Museums.taken("4: the least numbers", x, 0, y -> y.thing(0, 1, 1, 1, 0));
        Museums.taken("4: the greatest numbers", x, 1, y -> y.thing(3, 100, 4, 11, 20));
        int[][] told = {{101, 0, 1, 1, 0}, {111, 3, 100, 4, 20}};
        for (int i = 0; i < 2; i++) {
            for (int what = 0; what < 5; what++) {
                Check.due("4: THING " + i + ", what " + what, x.about(i, what), told[i][what]);
            }
        }
        refused("4: -6 in the HOURS", Museums.inTheHours(), -6, y -> y.thing(0, 1, 1, 1, 0));
        refused("4: -6 in the YEARS", Museums.inTheYears(), -6, y -> y.thing(0, 1, 1, 1, 0));
    }

    private static MuseumFlight sixteen() {
        MuseumFlight x = new MuseumFlight();
        for (int i = 0; i < 16; i++) {
            Museums.taken("4: THING " + i, x, i, y -> y.thing(0, 1, 1, 1, 0));
        }
        return x;
    }

    private static void thingsFull() {
        MuseumFlight x = sixteen();
        refused("4: -7 a 17th THING", x, -7, y -> y.thing(0, 1, 1, 1, 0));
        refused("4: -6 WORTH ahead of -7", x, -6, y -> y.thing(0, 0, 1, 1, 0));
        refused("4: -6 HANDS ahead of -7", x, -6, y -> y.thing(0, 1, 5, 1, 0));
        refused("4: -6 PACK ahead of -7", x, -6, y -> y.thing(0, 1, 1, 1, 21));
        refused("4: -1 KIND ahead of -7", x, -1, y -> y.thing(-1, 1, 1, 1, 0));
        refused("4: -1 ROOM ahead of -7", x, -1, y -> y.thing(0, 1, 1, 12, 0));
        Museums.taken("4: the 16th THING is there", x, 1, y -> y.show(0, 15));
        refused("4: no 17th THING", x, -1, y -> y.show(0, 16));
        x.alarm(9);
        refused("4: -6 behind the ALARM ahead of -7", x, -6, y -> y.thing(0, 1, 1, 1, 0));
    }

    // ---- promise 5: "-1; -2; -3; -6 a FAULT, behind the ALARM; -7" ----

    private static void labelNowhere() {
        for (int none : new int[] {-1, 8, MIN, MAX}) {
            refused("5: -1 no SHELF " + none, Museums.ahead(), -1, y -> y.label(none));
            refused("5: -1 no SHELF in the YEARS " + none, Museums.inTheYears(), -1, y -> y.label(none));
        }
        refused("5: -2 a THING", Museums.ahead(), -2, y -> y.label(1));
        refused("5: -2 a THING, ahead of -6", Museums.inTheHours(), -2, y -> y.label(1));
        refused("5: -3 NOTHING", Museums.ahead(), -3, y -> y.label(3));
        refused("5: -3 NOTHING, ahead of -6", Museums.inTheYears(), -3, y -> y.label(3));
    }

    private static void labelIsAThing() {
        MuseumFlight x = new MuseumFlight();
        HouseTest.write(x, 7, 0, "k0w1h1r1p0");
        Museums.taken("5: the least LABEL", x, 0, y -> y.label(7));
        HouseTest.write(x, 0, 0, "k3w100h4r11p20");
        Museums.taken("5: the greatest LABEL", x, 1, y -> y.label(0));
        int[][] told = {{101, 0, 1, 1, 0, 0, 0, 0}, {111, 3, 100, 4, 20, 0, 0, 0}};
        for (int i = 0; i < 2; i++) {
            for (int what = 0; what < 8; what++) {
                Check.due("5: THING " + i + ", what " + what, x.about(i, what), told[i][what]);
            }
        }
        Check.due("5: the ROW stays", x.holds(0), 100);
    }

    private static void labelOrder() {
        MuseumFlight x = sixteen();
        HouseTest.write(x, 0, 0, "k0w1h1r1p0");
        refused("5: -7 a 17th THING", x, -7, y -> y.label(0));
        Check.due("6: ... but it was a LABEL", x.fault(), -1);
        HouseTest.write(x, 1, 0, "k0w1h1r1p");
        x.label(1);
        refused("5: -6 a FAULT ahead of -7", x, -6, y -> y.label(1));
        Check.due("6: ... and its FAULT", x.fault(), 9);
        refused("5: -3 ahead of -7", x, -3, y -> y.label(2));
        x.show(2, 0);
        refused("5: -2 ahead of -7", x, -2, y -> y.label(2));
        refused("5: -1 ahead of -7", x, -1, y -> y.label(8));
        x.label(0);
        x.alarm(5);
        refused("5: -6 behind the ALARM ahead of -7", x, -6, y -> y.label(0));
        MuseumFlight z = new MuseumFlight();
        HouseTest.write(z, 0, 0, "k0w1h1r1p0");
        z.alarm(5);
        refused("5: -6 in the HOURS", z, -6, y -> y.label(0));
        z.minutes(5);
        refused("5: -6 in the YEARS", z, -6, y -> y.label(0));
    }

    /** "elements as ints: of longs the lowest 32 bits" */
    private static void labelsOfEachSort() {
        for (int sort = 0; sort < 4; sort++) {
            MuseumFlight x = new MuseumFlight();
            HouseTest.write(x, 0, sort, "k2w75h3r10p5");
            Museums.taken("5: a LABEL of SORT " + sort, x, 0, y -> y.label(0));
            x.set(0, 0, 'k' + 256);
            x.label(0);
            Check.due("6: k and 256 in SORT " + sort, x.fault(), sort == 0 ? -1 : 0);
            x.set(0, 0, 'k' + 65536);
            x.label(0);
            Check.due("6: k and 65,536 in SORT " + sort, x.fault(), sort <= 1 ? -1 : 0);
            x.set(0, 0, 'k' + (1L << 32));
            x.label(0);
            Check.due("6: k and 2 to the 32 in SORT " + sort, x.fault(), -1);
            x.set(0, 0, 'k' - (1L << 63));
            x.label(0);
            Check.due("6: k and the topmost bit in SORT " + sort, x.fault(), -1);
            x.set(0, 4, '5' + (1L << 40));
            x.label(0);
            Check.due("6: a digit of longs, too, in SORT " + sort, x.fault(), -1);
        }
    }

    // ---- promise 6: the first place at which an element can't stand as LABELS go on ----

    private static void fault(String text, int due) {
        MuseumFlight x = new MuseumFlight();
        HouseTest.write(x, 3, 0, text);
        int answer = x.label(3);
        Check.due("6: label " + text, answer, due < 0 ? 0 : -6);
        Check.due("6: fault of " + text, x.fault(), due);
        Check.due("6: THINGS by " + text, x.status(0), due < 0 ? 1 : 0);
    }

    private static void faultPlaces() {
        String whole = "k2w75h3r10p15";
        fault(whole, -1);
        for (int i = 0; i < whole.length(); i++) {
            fault(whole.substring(0, i) + "?" + whole.substring(i + 1), i);
            fault(whole.substring(0, i) + "?", i);
            fault(whole + whole.charAt(i), whole.length());
        }
        for (int i = 0; i < whole.length() - 1; i++) {
            fault(whole.substring(0, i), i);
        }
        for (int kind = 0; kind <= 9; kind++) {
            fault("k" + kind + "w1h1r1p0", kind <= 3 ? -1 : 1);
            fault("k" + kind, kind <= 3 ? 2 : 1);
        }
        for (int n = 0; n <= 300; n++) {
            numbers(n);
        }
        for (String zero : new String[] {"0", "00"}) {
            fault("k" + zero + "1w1h1r1p0", 2);
            fault("k1w" + zero + "1h1r1p0", 3);
            fault("k1w1h" + zero + "1r1p0", 5);
            fault("k1w1h1r" + zero + "1p0", 7);
            fault("k1w1h1r1p" + zero + "1", 10);
            fault("k1w1h1r1p0" + zero, 10);
        }
        fault("k1w1000h1r1p0", 6);
        fault("k1w1h1r100p0", 9);
        fault("k1w1h1r1p1000", 11);
        fault("k1w1h11r1p1", 6);
        fault("k1w1h1r1p0p0", 10);
    }

    /** All numbers, each as WORTH, HANDS, ROOM and PACK. */
    private static void numbers(int n) {
        String text = Integer.toString(n);
        fault("k1w" + text + "h1r1p0", n >= 1 && n <= 100 ? -1 : 3 + good(text, 1, 100));
        fault("k1w1h" + text + "r1p0", n >= 1 && n <= 4 ? -1 : 5 + good(text, 1, 4));
        fault("k1w1h1r" + text + "p0", n >= 1 && n <= 11 ? -1 : 7 + good(text, 1, 11));
        fault("k1w1h1r1p" + text, n <= 20 ? -1 : 9 + good(text, 0, 20));
    }

    /** How many digits stand: as many as still begin some number from least to most. */
    private static int good(String text, int least, int most) {
        for (int n = 1; n <= text.length(); n++) {
            boolean begins = false;
            for (int other = least; other <= most; other++) {
                begins |= Integer.toString(other).startsWith(text.substring(0, n));
            }
            if (!begins) {
                return n - 1;
            }
        }
        return text.length();
    }

    /** "of the latest label() that came to a ROW; NONE: it was a LABEL, or none yet" */
    private static void faultOfTheLatest() {
        MuseumFlight x = Museums.ahead();
        Museums.seen("6: none yet", x, -1, MuseumFlight::fault);
        x.label(8);
        x.label(1);
        x.label(3);
        Museums.seen("6: none came to a ROW", x, -1, MuseumFlight::fault);
        HouseTest.write(x, 4, 0, "k1w");
        x.label(4);
        Museums.seen("6: too early an end: the number of elements", x, 3, MuseumFlight::fault);
        x.label(8);
        x.label(1);
        x.label(3);
        Museums.seen("6: no SHELF, a THING and NOTHING leave it", x, 3, MuseumFlight::fault);
        x.row(4, 0, 0);
        x.label(4);
        Museums.seen("6: an empty ROW", x, 0, MuseumFlight::fault);
        HouseTest.write(x, 4, 0, "k1w1h1r1p1");
        x.label(4);
        Museums.seen("6: it was a LABEL", x, -1, MuseumFlight::fault);
        x.row(4, 0, 60);
        x.label(4);
        Museums.seen("6: a ROW of 60 zeros", x, 0, MuseumFlight::fault);
    }

    // ---- promise 7: "-1 (0, too); -6 the minute; in the HOURS below NOW; in the YEARS" ----

    private static void dangerRooms() {
        for (int none : new int[] {0, -1, 12, MIN, MAX}) {
            refused("7: -1 (0, too) " + none, Museums.ahead(), -1, y -> y.danger(none, 5));
            refused("7: -1 ahead of -6 the minute " + none, Museums.ahead(), -1, y -> y.danger(none, 241));
            refused("7: -1 ahead of -6 below NOW " + none, Museums.inTheHours(), -1, y -> y.danger(none, 0));
            refused("7: -1 ahead of -6 in the YEARS " + none, Museums.inTheYears(), -1, y -> y.danger(none, 5));
        }
        MuseumFlight x = new MuseumFlight();
        for (int r = 1; r < 12; r++) {
            int room = r;
            Museums.taken("7: NONE at first", x, -1, y -> y.danger(room, 10 + room));
        }
        for (int r = 1; r < 12; r++) {
            int room = r;
            Museums.taken("7: what it was", x, 10 + r, y -> y.danger(room, -1));
        }
    }

    private static void dangerMinutes() {
        MuseumFlight x = Museums.ahead();
        for (int wrong : new int[] {-2, 241, MIN, MAX}) {
            refused("7: -6 the minute " + wrong, x, -6, y -> y.danger(1, wrong));
        }
        Museums.taken("7: minute 0", x, -1, y -> y.danger(1, 0));
        Museums.taken("7: minute 240", x, 0, y -> y.danger(1, 240));
        Museums.taken("7: NONE: never", x, 240, y -> y.danger(1, -1));
        Museums.taken("7: it was never", x, -1, y -> y.danger(1, -1));
    }

    private static void dangerInTheHours() {
        MuseumFlight x = Museums.inTheHours();
        Museums.taken("7: in minute 1, minute 1", x, -1, y -> y.danger(2, 1));
        refused("7: in minute 1, minute 0 is below NOW", x, -6, y -> y.danger(2, 0));
        Museums.taken("7: NONE also in the HOURS", x, 1, y -> y.danger(2, -1));
        x.minutes(58);
        refused("7: in minute 59, minute 58 is below NOW", x, -6, y -> y.danger(2, 58));
        refused("7: in the HOURS minute 241", x, -6, y -> y.danger(2, 241));
        refused("7: in the HOURS minute -2", x, -6, y -> y.danger(2, -2));
        Museums.taken("7: in minute 59, minute 59", x, -1, y -> y.danger(2, 59));
        Museums.taken("7: beyond END", x, 59, y -> y.danger(2, 240));
        MuseumFlight first = Museums.ahead();
        first.alarm(9);
        Museums.taken("7: in minute 0, minute 0", first, -1, y -> y.danger(1, 0));
    }

    private static void dangerInTheYears() {
        MuseumFlight x = Museums.inTheYears();
        for (int minute : new int[] {-1, 0, 60, 61, 240, 241}) {
            refused("7: -6 in the YEARS, minute " + minute, x, -6, y -> y.danger(1, minute));
        }
    }

    /** "a minute from which on nobody comes into it": minute and FAR stay below it. */
    private static void dangerIsNew() {
        for (int minute = 0; minute <= 6; minute++) {
            MuseumFlight x = new MuseumFlight();
            x.door(0, 1, 4);
            x.team(1);
            x.thing(0, 7, 1, 1, 0);
            x.danger(1, minute);
            Check.due("7: 0 and FAR 4 below DANGER " + minute, x.alarm(50), minute > 4 ? 7 : 0);
            x.danger(1, -1);
            Check.due("7: never any more", x.given(0), 0);
            x.danger(1, minute);
            Check.due("7: a new DANGER: THE PLAN is made anew", x.given(0), minute > 4 ? 0 : -1);
        }
    }

    // ---- promise 21: "FAR of a ROOM; NONE: no way, no such ROOM" ----

    private static void farOfRooms() {
        for (MuseumFlight x : new MuseumFlight[] {Museums.ahead(), Museums.inTheHours(), Museums.inTheYears()}) {
            for (int none : NO_ROOMS) {
                Museums.seen("21: no such ROOM " + none, x, -1, y -> y.far(none));
            }
            Museums.seen("21: the GATE", x, 0, y -> y.far(0));
            Museums.seen("21: one DOOR", x, 1, y -> y.far(1));
            Museums.seen("21: two DOORS", x, 2, y -> y.far(2));
            Museums.seen("21: no way", x, -1, y -> y.far(3));
            Museums.seen("21: no way", x, -1, y -> y.far(11));
        }
    }

    private static void farOfDoors() {
        MuseumFlight x = new MuseumFlight();
        x.door(0, 1, 9);
        x.door(0, 1, 2);
        x.door(1, 0, 5);
        Check.due("21: the least MINUTES", x.far(1), 2);
        x.block(1);
        Check.due("21: of DOORS that aren't BLOCKED", x.far(1), 5);
        x.block(2);
        Check.due("21: the last one", x.far(1), 9);
        x.block(0);
        Check.due("21: all are BLOCKED", x.far(1), -1);
        MuseumFlight ring = new MuseumFlight();
        for (int r = 0; r < 12; r++) {
            ring.door(r, (r + 1) % 12, 9);
        }
        Check.due("21: both ways about", ring.far(6), 54);
        Check.due("21: the shorter way about", ring.far(7), 45);
        ring.block(11);
        Check.due("21: through all ROOMS", ring.far(11), 99);
        ring.block(0);
        for (int r = 1; r < 12; r++) {
            Check.due("21: cut off", ring.far(r), -1);
        }
    }
}
