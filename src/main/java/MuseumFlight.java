import java.util.ArrayList;
import java.util.Arrays;

/** A museum emptied: THE HOUSE, THE HOURS and THE YEARS of ../shared/DOC.md. */
public final class MuseumFlight {
    public static final int NONE = -1;

    // What a refused call answers.
    private static final int NOBODY = -1;
    private static final int OTHER = -2;
    private static final int NOTHING = -3;
    private static final int BELOW = -4;
    private static final int BEYOND = -5;
    private static final int WRONG = -6;
    private static final int FULL = -7;
    private static final int REFUSALS = 7;
    private static final int ALLOWED = 0;

    // How many there may be.
    private static final int ROOMS = 12;
    private static final int DOORS = 20;
    private static final int THINGS = 16;
    private static final int TEAMS = 3;
    private static final int SHELVES = 8;
    private static final int PLACES = 5;
    private static final int KINDS = 4;
    private static final int GROUPS = 4;
    private static final int SORTS = 4;
    private static final int PAPERS = 6;
    private static final int ROW_SIZE = 60;
    private static final int SEARCHED = 8;
    private static final int SETS = 256;

    private static final int LAST_MINUTE = 240;
    private static final int LAST_WEEK = 1000;
    private static final int LAST_YEAR = 200;
    private static final int MOST_FUEL = 1000000;
    private static final int MOST_HARM = 100;
    private static final int YARD_HARM = 10;
    private static final int MISSING_HARM = 5;
    private static final int WEEK_ZERO = 1000;
    private static final int QUARREL = 100;
    private static final int MISSING = NONE - 1;

    // What a SHELF holds beside the number of a THING or NONE: this and a SORT.
    private static final int A_ROW = 100;

    // WHERE a THING is: one of these and a number.
    private static final int WHERES = 100;
    private static final int IN_ROOM = 100;
    private static final int IN_HAND = 200;
    private static final int YARD = 300;
    private static final int IN_PLACE = 400;
    private static final int LOST = 500;
    private static final int GIVEN_BACK = 600;

    private static final int AHEAD_OF_ALARM = 0;
    private static final int IN_THE_HOURS = 1;
    private static final int IN_THE_YEARS = 2;

    private final ArrayList<Thing> things;
    private final House house;
    private final Hours hours;
    private final Years years;
    private final Spread theSpread;
    private final Row[] rows;
    private final int[] held;
    private final Label reader;
    private final int[] refusals;
    private int latestFault;
    private int phase;

    public MuseumFlight() {
        things = new ArrayList<Thing>();
        house = new House();
        hours = new Hours(things, house);
        years = new Years(things);
        theSpread = new Spread(things, years);
        rows = new Row[SHELVES];
        for (int s = 0; s < SHELVES; s++) {
            rows[s] = new Row();
        }
        held = new int[SHELVES];
        Arrays.fill(held, NONE);
        reader = new Label();
        refusals = new int[REFUSALS + 1];
        latestFault = NONE;
        phase = AHEAD_OF_ALARM;
    }

    // ---- THE HOUSE ----

    public int door(int a, int b, int minutes) {
        if (!within(a, 0, ROOMS - 1) || !within(b, 0, ROOMS - 1)) {
            return refuse(NOBODY);
        }
        if (a == b || !within(minutes, 1, 9) || phase != AHEAD_OF_ALARM) {
            return refuse(WRONG);
        }
        if (house.doorCount() >= DOORS) {
            return refuse(FULL);
        }
        return house.addDoor(a, b, minutes);
    }

    public int team(int hands) {
        if (!within(hands, 1, 4) || phase != AHEAD_OF_ALARM) {
            return refuse(WRONG);
        }
        if (hours.teamCount() >= TEAMS) {
            return refuse(FULL);
        }
        return hours.addTeam(hands);
    }

    public int thing(int kind, int worth, int hands, int room, int pack) {
        if (!within(kind, 0, KINDS - 1) || !within(room, 1, ROOMS - 1)) {
            return refuse(NOBODY);
        }
        if (!within(worth, 1, 100) || !within(hands, 1, 4) || !within(pack, 0, 20)) {
            return refuse(WRONG);
        }
        return addThing(kind, worth, hands, room, pack);
    }

    public int label(int s) {
        Row row = rowIn(s);
        if (row == null) {
            return refuse(whyNoRow(s));
        }
        latestFault = reader.read(row);
        if (latestFault != NONE) {
            return refuse(WRONG);
        }
        return addThing(reader.number(0), reader.number(1), reader.number(2), reader.number(3), reader.number(4));
    }

    private int addThing(int kind, int worth, int hands, int room, int pack) {
        if (phase != AHEAD_OF_ALARM) {
            return refuse(WRONG);
        }
        int number = things.size();
        if (number >= THINGS) {
            return refuse(FULL);
        }
        things.add(new Thing(number, kind, worth, hands, room, pack));
        return number;
    }

    public int fault() {
        return latestFault;
    }

    public int danger(int room, int minute) {
        if (!within(room, 1, ROOMS - 1)) {
            return refuse(NOBODY);
        }
        boolean never = minute == NONE;
        boolean past = phase == IN_THE_HOURS && !never && minute < hours.minuteNow();
        if (!never && !within(minute, 0, LAST_MINUTE) || past || phase == IN_THE_YEARS) {
            return refuse(WRONG);
        }
        int before = house.changeDanger(room, minute);
        if (phase == IN_THE_HOURS) {
            hours.makePlan();
        }
        return before;
    }

    public int far(int room) {
        return house.wayTo(room);
    }

    // ---- SHELVES ----

    public int row(int s, int sort, int n) {
        if (!isShelf(s)) {
            return refuse(NOBODY);
        }
        if (n < 0) {
            return refuse(BELOW);
        }
        if (!within(sort, 0, SORTS - 1)) {
            return refuse(WRONG);
        }
        if (n > ROW_SIZE) {
            return refuse(FULL);
        }
        rows[s].renew(sort, n);
        held[s] = A_ROW + sort;
        return 1;
    }

    public int set(int s, int i, long v) {
        Row row = rowIn(s);
        if (row == null) {
            return refuse(whyNoRow(s));
        }
        if (!row.has(i)) {
            return refuse(BEYOND);
        }
        row.put(i, v);
        return 1;
    }

    public int copy(int p, int q, int i, int j, int n) {
        int why = whyNoRows(p, q, q);
        if (why == NOBODY || why == OTHER) {
            return refuse(why);
        }
        Row from = rowIn(p);
        Row to = rowIn(q);
        if (from == null || to == null) {
            return refuse(NOTHING);
        }
        if (from.sort() != to.sort()) {
            return refuse(OTHER);
        }
        if (n < 0) {
            return refuse(BELOW);
        }
        if (!from.hasPart(i, n) || !to.hasPart(j, n)) {
            return refuse(BEYOND);
        }
        to.putPart(j, from, i, n);
        return 1;
    }

    public long element(int s, int i) {
        Row row = rowIn(s);
        return row == null ? 0 : row.at(i);
    }

    public int show(int s, int thing) {
        if (!isShelf(s) || thing != NONE && thingAt(thing) == null) {
            return refuse(NOBODY);
        }
        held[s] = thing;
        return thing == NONE ? 0 : 1;
    }

    public int holds(int s) {
        return isShelf(s) ? held[s] : NONE;
    }

    public int worthIn(int s) {
        if (!isShelf(s)) {
            return refuse(NOBODY);
        }
        if (held[s] == NONE) {
            return refuse(NOTHING);
        }
        Thing thing = thingAt(held[s]);
        return thing == null ? refuse(OTHER) : thing.worth();
    }

    private static boolean isShelf(int s) {
        return within(s, 0, SHELVES - 1);
    }

    private boolean isEmpty(int s) {
        return isShelf(s) && held[s] == NONE;
    }

    private boolean showsThing(int s) {
        return isShelf(s) && within(held[s], 0, THINGS - 1);
    }

    private Row rowIn(int s) {
        return isShelf(s) && held[s] >= A_ROW ? rows[s] : null;
    }

    private int whyNoRow(int s) {
        return whyNoRows(s, s, s);
    }

    private static int firstOf(boolean nobody, boolean other, boolean nothing) {
        return nobody ? NOBODY : other ? OTHER : nothing ? NOTHING : ALLOWED;
    }

    private int whyNoRows(int a, int b, int c) {
        return firstOf(!isShelf(a) || !isShelf(b) || !isShelf(c),
                showsThing(a) || showsThing(b) || showsThing(c),
                isEmpty(a) || isEmpty(b) || isEmpty(c));
    }

    // ---- THE HOURS ----

    public int alarm(int end) {
        if (!within(end, 1, LAST_MINUTE) || phase != AHEAD_OF_ALARM) {
            return refuse(WRONG);
        }
        phase = IN_THE_HOURS;
        return hours.ring(end);
    }

    public int plan(boolean best) {
        int why = whyNoPlan(best);
        return why == ALLOWED ? hours.planBy(best) : refuse(why);
    }

    public int gap() {
        int why = whyNoPlan(true);
        return why == ALLOWED ? hours.gapNow() : refuse(why);
    }

    private int whyNoPlan(boolean best) {
        if (phase != IN_THE_HOURS) {
            return WRONG;
        }
        return best && howManyAt(IN_ROOM) > SEARCHED ? FULL : ALLOWED;
    }

    public int block(int door) {
        if (!house.hasDoor(door)) {
            return refuse(NOBODY);
        }
        if (phase == IN_THE_YEARS || house.isBlocked(door)) {
            return refuse(WRONG);
        }
        house.blockDoor(door);
        return phase == IN_THE_HOURS ? hours.makePlan() : 0;
    }

    public int late(int team, int minutes) {
        if (!within(team, 0, hours.teamCount() - 1)) {
            return refuse(NOBODY);
        }
        if (!within(minutes, 1, 60) || phase != IN_THE_HOURS || hours.isBusy(team)) {
            return refuse(WRONG);
        }
        return hours.delay(team, minutes);
    }

    public int minutes(int n) {
        if (!within(n, 1, LAST_MINUTE) || phase != IN_THE_HOURS) {
            return refuse(WRONG);
        }
        for (int i = 0; i < n && !hours.over(); i++) {
            hours.liveMinute();
        }
        if (hours.over()) {
            phase = IN_THE_YEARS;
        }
        return hours.minuteNow();
    }

    public int given(int thing) {
        Thing one = thingAt(thing);
        return one == null ? NONE : one.givenTo();
    }

    public int begins(int thing) {
        Thing one = thingAt(thing);
        return one == null ? NONE : hours.beginOf(one);
    }

    // ---- THE YEARS ----

    public int place(int hands, int group, int miles) {
        if (!within(group, 0, GROUPS - 1)) {
            return refuse(NOBODY);
        }
        if (!within(hands, 1, 40) || !within(miles, 1, 9)) {
            return refuse(WRONG);
        }
        if (years.placeCount() >= PLACES) {
            return refuse(FULL);
        }
        return years.addPlace(hands, group, miles);
    }

    public int air(int place, int s) {
        Place one = years.placeAt(place);
        if (one == null) {
            return refuse(NOBODY);
        }
        Row row = rowIn(s);
        if (row == null) {
            return refuse(whyNoRow(s));
        }
        return one.takeAir(row);
    }

    public int airIn(int place, int week) {
        Place one = years.placeAt(place);
        if (one == null || week < 0) {
            return NONE;
        }
        long air = one.airOf(week);
        return air == Row.NO_AIR ? MISSING : (int) air;
    }

    public int band(int kind, int from, int to) {
        if (!within(kind, 0, KINDS - 1)) {
            return refuse(NOBODY);
        }
        if (from < 0 || from > to || to > 100) {
            return refuse(WRONG);
        }
        years.changeBand(kind, from, to);
        return 1;
    }

    public int keep(int kind, int n) {
        if (!within(kind, 0, KINDS - 1)) {
            return refuse(NOBODY);
        }
        return within(n, 0, 9) ? years.changeKeep(kind, n) : refuse(WRONG);
    }

    public int fuel(int n) {
        return within(n, 0, 10000) ? years.pour(n) : refuse(WRONG);
    }

    public int spread(boolean move) {
        if (phase != IN_THE_YEARS) {
            return refuse(WRONG);
        }
        int cost = theSpread.find();
        if (cost < 0) {
            return refuse(cost);
        }
        if (move && !years.canPay(cost)) {
            return refuse(FULL);
        }
        if (move) {
            theSpread.carryOut();
        }
        return cost;
    }

    public int move(int thing, int place) {
        Thing one = thingAt(thing);
        Place target = years.placeAt(place);
        if (one == null || target == null) {
            return refuse(NOBODY);
        }
        if (phase != IN_THE_YEARS || !one.isKept() || one.placeNumber() == place
                || years.handsIn(place) + one.hands() > target.hands()) {
            return refuse(WRONG);
        }
        if (!years.canPay(years.costOf(one, target))) {
            return refuse(FULL);
        }
        return years.bring(one, place);
    }

    public int weeks(int n) {
        if (!within(n, 1, 60) || phase != IN_THE_YEARS) {
            return refuse(WRONG);
        }
        if (years.weekNow() + n > LAST_WEEK) {
            return refuse(FULL);
        }
        for (int i = 0; i < n; i++) {
            years.liveWeek();
        }
        return years.weekNow();
    }

    public int lose(int group) {
        if (!within(group, 0, GROUPS - 1)) {
            return refuse(NOBODY);
        }
        return phase == IN_THE_YEARS ? years.strike(group) : refuse(WRONG);
    }

    public int found(int thing) {
        Thing one = thingAt(thing);
        if (one == null) {
            return refuse(NOBODY);
        }
        if (phase != IN_THE_YEARS || one.where() != LOST) {
            return refuse(WRONG);
        }
        one.goTo(YARD, years.timeNow());
        return 1;
    }

    // ---- papers, seals, lists ----

    public int paper(int thing, int who, int from, int to) {
        Thing one = thingAt(thing);
        if (one == null) {
            return refuse(NOBODY);
        }
        if (!within(who, 0, 9) || from < 0 || from > to || to > LAST_YEAR) {
            return refuse(WRONG);
        }
        return one.paperCount() >= PAPERS ? refuse(FULL) : one.addPaper(who, from, to);
    }

    public int holder(int thing, int year) {
        Thing one = thingAt(thing);
        return one == null ? NONE : one.holderIn(year);
    }

    public int giveBack(int thing, int year) {
        Thing one = thingAt(thing);
        if (one == null) {
            return refuse(NOBODY);
        }
        int who = one.holderIn(year);
        if (phase != IN_THE_YEARS || !one.isKept() || who == NONE || who == QUARREL) {
            return refuse(WRONG);
        }
        one.goTo(GIVEN_BACK + who, years.timeNow());
        return who;
    }

    public int about(int thing, int what) {
        Thing one = thingAt(thing);
        return one == null ? NONE : one.tell(what);
    }

    public int seal(int thing, int i, int what) {
        Thing one = thingAt(thing);
        return one == null ? NONE : one.tellSeal(i, what);
    }

    public int quarrel(int a, int b, int c) {
        int why = whyNoRows(a, b, c);
        if (why != ALLOWED) {
            return refuse(why);
        }
        Row first = rowIn(a);
        Row second = rowIn(b);
        Row third = rowIn(c);
        int changes = 0;
        for (int i = 0; i < things.size(); i++) {
            changes += 3 - Row.mostAlike(first, second, third, i);
        }
        return changes;
    }

    public long said(int a, int b, int c, int thing) {
        Row first = rowIn(a);
        Row second = rowIn(b);
        Row third = rowIn(c);
        if (first == null || second == null || third == null || thingAt(thing) == null) {
            return NONE;
        }
        if (first.agrees(second, thing) || first.agrees(third, thing)) {
            return first.at(thing);
        }
        return second.agrees(third, thing) ? second.at(thing) : NONE;
    }

    public int status(int what) {
        if (within(what, 4, 9)) {
            return howManyAt((what - 3) * WHERES);
        }
        if (within(what, 11, 10 + REFUSALS)) {
            return refusals[what - 10];
        }
        switch (what) {
            case 0: return things.size();
            case 1: return house.doorCount();
            case 2: return hours.teamCount();
            case 3: return years.placeCount();
            case 10: return phase;
            case 18: return hours.minuteNow();
            case 19: return years.weekNow();
            case 20: return years.fuelLeft();
            default: return NONE;
        }
    }

    // ---- what all of them use ----

    private static boolean within(int v, int least, int most) {
        return least <= v && v <= most;
    }

    private int refuse(int refusal) {
        if (within(-refusal, 1, REFUSALS)) {
            refusals[-refusal]++;
        }
        return refusal;
    }

    private Thing thingAt(int number) {
        return within(number, 0, things.size() - 1) ? things.get(number) : null;
    }

    private int howManyAt(int where) {
        int count = 0;
        for (int i = 0; i < things.size(); i++) {
            if (things.get(i).isAt(where)) {
                count++;
            }
        }
        return count;
    }

    /** Up to 60 numbers of one SORT; its elements are made once and used again for each new ROW. */
    private static final class Row {
        private static final long[] LEAST = {-128L, -32768L, -2147483648L, -9223372036854775808L};

        // No int, so that it is unlike all AIR.
        static final long NO_AIR = 1L << 40;

        private final long[] elements;
        private int sort;
        private int size;

        Row() {
            elements = new long[ROW_SIZE];
        }

        void renew(int newSort, int newSize) {
            sort = within(newSort, 0, SORTS - 1) ? newSort : 0;
            size = Math.max(0, Math.min(newSize, ROW_SIZE));
            Arrays.fill(elements, 0L);
        }

        void takeOver(Row other) {
            renew(other.sort, other.size);
            System.arraycopy(other.elements, 0, elements, 0, ROW_SIZE);
        }

        int sort() {
            return sort;
        }

        int size() {
            return size;
        }

        boolean has(int i) {
            return 0 <= i && i < size;
        }

        boolean hasPart(int i, int n) {
            return i >= 0 && n >= 0 && (long) i + n <= size;
        }

        long at(int i) {
            return has(i) ? elements[i] : 0L;
        }

        void put(int i, long v) {
            if (has(i)) {
                elements[i] = lowestBits(v);
            }
        }

        private long lowestBits(long v) {
            switch (sort) {
                case 0: return (byte) v;
                case 1: return (short) v;
                case 2: return (int) v;
                default: return v;
            }
        }

        void putPart(int j, Row from, int i, int n) {
            if (from.hasPart(i, n) && hasPart(j, n)) {
                System.arraycopy(from.elements, i, elements, j, n);
            }
        }

        /** The element of a week as an int, or NO_AIR. */
        long airOf(int week) {
            int i = size > 0 && week >= 0 ? week % size : NONE;
            return !has(i) || elements[i] == LEAST[sort] ? NO_AIR : (int) elements[i];
        }

        /** An element that isn't there is unlike all, another one that isn't there too. */
        boolean agrees(Row other, int i) {
            return has(i) && other.has(i) && at(i) == other.at(i);
        }

        private static int alike(Row one, Row a, Row b, Row c, int i) {
            return (one.agrees(a, i) ? 1 : 0) + (one.agrees(b, i) ? 1 : 0) + (one.agrees(c, i) ? 1 : 0);
        }

        /** How many of three can stay as they are when all are to agree on element i. */
        static int mostAlike(Row a, Row b, Row c, int i) {
            if (a == null || b == null || c == null) {
                return 0;
            }
            int most = Math.max(alike(a, a, b, c, i), alike(b, a, b, c, i));
            return Math.max(most, alike(c, a, b, c, i));
        }
    }

    /** Reads a LABEL; a number is taken greedily, as each beginning of one within its bounds may stand. */
    private static final class Label {
        private static final String LETTERS = "kwhrp";
        private static final int[] LEAST = {0, 1, 1, 1, 0};
        private static final int[] MOST = {3, 100, 4, 11, 20};
        private static final int PARTS = 5;
        private static final int DIGITS = 3;

        private final int[] numbers;

        Label() {
            numbers = new int[PARTS];
        }

        int number(int part) {
            return within(part, 0, PARTS - 1) ? numbers[part] : NONE;
        }

        /** The FAULT of a ROW as a LABEL, or NONE. */
        int read(Row row) {
            int at = 0;
            for (int part = 0; part < PARTS; part++) {
                if (!row.has(at) || letterAt(row, at) != LETTERS.charAt(part)) {
                    return at;
                }
                int end = readNumber(row, at + 1, part);
                if (end == at + 1) {
                    return end;
                }
                at = end;
            }
            return row.has(at) ? at : NONE;
        }

        /** Where the digits end that can stand from there on. */
        private int readNumber(Row row, int from, int part) {
            numbers[part] = NONE;
            int at = from;
            for (int i = 0; i < DIGITS; i++) {
                int longer = row.has(at) ? withDigit(numbers[part], letterAt(row, at) - '0') : NONE;
                if (!within(longer, LEAST[part], MOST[part])) {
                    return at;
                }
                numbers[part] = longer;
                at++;
            }
            return at;
        }

        private static int withDigit(int number, int digit) {
            if (!within(digit, 0, 9) || number == 0) {
                return NONE;
            }
            return number == NONE ? digit : number * 10 + digit;
        }

        private static int letterAt(Row row, int i) {
            return (int) row.at(i);
        }
    }

    /** A THING with its SEALS and PAPERS, and its JOB as it was looked at last. */
    private static final class Thing {
        private static final int PARTS = 3;
        private static final int FIRST_SEALS = 4;
        // No run of 512 calls seals one THING so often.
        private static final int MOST_SEALS = 1024;

        private final int number;
        private final int kind;
        private final int worth;
        private final int hands;
        private final int room;
        private final int pack;
        private int where;
        private int harm;
        private int team;
        private int choice;
        private int length;
        private int latest;
        private int[] seals;
        private int sealCount;
        private final int[] papers;
        private int paperCount;

        Thing(int number, int kind, int worth, int hands, int room, int pack) {
            this.number = number;
            this.kind = kind;
            this.worth = worth;
            this.hands = hands;
            this.room = room;
            this.pack = pack;
            where = IN_ROOM + room;
            team = NONE;
            choice = NONE;
            seals = new int[FIRST_SEALS * PARTS];
            papers = new int[PAPERS * PARTS];
        }

        int number() {
            return number;
        }

        int kind() {
            return kind;
        }

        int worth() {
            return worth;
        }

        int hands() {
            return hands;
        }

        int room() {
            return room;
        }

        int pack() {
            return pack;
        }

        int where() {
            return where;
        }

        boolean isAt(int zone) {
            return zone <= where && where < zone + WHERES;
        }

        boolean isKept() {
            return isAt(YARD) || isAt(IN_PLACE);
        }

        int placeNumber() {
            return isAt(IN_PLACE) ? where - IN_PLACE : NONE;
        }

        void grow(int more) {
            harm += more;
        }

        /** The TEAM that has it by THE PLAN, or IN HAND. */
        int givenTo() {
            return team;
        }

        void giveTo(int newTeam) {
            team = newTeam;
        }

        /** The TEAM that a PLAN in the making gives it. */
        int choice() {
            return choice;
        }

        void choose(int newChoice) {
            choice = newChoice;
        }

        void measure(int newLength, int newLatest) {
            length = newLength;
            latest = newLatest;
            choice = NONE;
        }

        int length() {
            return length;
        }

        /** The latest minute in which its JOB may be begun. */
        int latest() {
            return latest;
        }

        int due() {
            return latest + length;
        }

        int rate() {
            return length > 0 ? worth * 1000 / length : 0;
        }

        void goTo(int newWhere, int time) {
            int at = sealCount * PARTS;
            if (sealCount < MOST_SEALS) {
                makeRoomAt(at);
            }
            if (at + PARTS <= seals.length) {
                seals[at] = time;
                seals[at + 1] = where;
                seals[at + 2] = newWhere;
                sealCount++;
            }
            where = newWhere;
        }

        private void makeRoomAt(int at) {
            if (at + PARTS > seals.length) {
                seals = Arrays.copyOf(seals, seals.length * 2);
            }
        }

        int tellSeal(int i, int what) {
            boolean there = within(i, 0, sealCount - 1) && within(what, 0, PARTS - 1);
            int at = there ? i * PARTS + what : NONE;
            return within(at, 0, seals.length - 1) ? seals[at] : NONE;
        }

        int paperCount() {
            return paperCount;
        }

        int addPaper(int who, int from, int to) {
            int at = paperCount * PARTS;
            if (at + PARTS <= papers.length) {
                papers[at] = who;
                papers[at + 1] = from;
                papers[at + 2] = to;
                paperCount++;
            }
            return paperCount;
        }

        int holderIn(int year) {
            int who = NONE;
            for (int at = 0; at + PARTS <= papers.length && at < paperCount * PARTS; at += PARTS) {
                if (within(year, papers[at + 1], papers[at + 2])) {
                    who = who == NONE || who == papers[at] ? papers[at] : QUARREL;
                }
            }
            return who;
        }

        int tell(int what) {
            switch (what) {
                case 0: return where;
                case 1: return kind;
                case 2: return worth;
                case 3: return hands;
                case 4: return pack;
                case 5: return harm;
                case 6: return sealCount;
                case 7: return paperCount;
                default: return NONE;
            }
        }
    }

    /** ROOMS, DOORS, and DANGER. */
    private static final class House {
        private final int[] from;
        private final int[] to;
        private final int[] minutes;
        private final boolean[] blocked;
        private final int[] ways;
        private final int[] dangers;
        private int doors;

        House() {
            from = new int[DOORS];
            to = new int[DOORS];
            minutes = new int[DOORS];
            blocked = new boolean[DOORS];
            ways = new int[ROOMS];
            Arrays.fill(ways, NONE);
            ways[0] = 0;
            dangers = new int[ROOMS];
            Arrays.fill(dangers, NONE);
        }

        int doorCount() {
            return doors;
        }

        boolean hasDoor(int door) {
            return within(door, 0, doors - 1);
        }

        int addDoor(int a, int b, int length) {
            if (!within(doors, 0, DOORS - 1) || !isRoom(a) || !isRoom(b)) {
                return NONE;
            }
            from[doors] = a;
            to[doors] = b;
            minutes[doors] = length;
            doors++;
            findWays();
            return doors - 1;
        }

        boolean isBlocked(int door) {
            return within(door, 0, DOORS - 1) && blocked[door];
        }

        void blockDoor(int door) {
            if (within(door, 0, DOORS - 1)) {
                blocked[door] = true;
                findWays();
            }
        }

        int wayTo(int room) {
            return isRoom(room) ? ways[room] : NONE;
        }

        int changeDanger(int room, int minute) {
            if (!isRoom(room)) {
                return NONE;
            }
            int before = dangers[room];
            dangers[room] = minute;
            return before;
        }

        /** Tells a THING in a ROOM with a way the measures of its JOB; false if there is no JOB. */
        boolean measure(Thing thing, int end) {
            int room = thing.room();
            if (!within(room, 0, ROOMS - 1) || ways[room] == NONE) {
                return false;
            }
            int length = Math.max(1, 2 * ways[room] + thing.pack());
            int latest = end - length;
            if (dangers[room] != NONE) {
                latest = Math.min(latest, dangers[room] - 1 - ways[room]);
            }
            thing.measure(length, latest);
            return true;
        }

        private static boolean isRoom(int room) {
            return within(room, 0, ROOMS - 1);
        }

        /** A least way goes through each ROOM once at most, so as many rounds as ROOMS find all. */
        private void findWays() {
            Arrays.fill(ways, NONE);
            ways[0] = 0;
            for (int round = 0; round < ROOMS; round++) {
                for (int door = 0; door < doors && door < DOORS; door++) {
                    if (!blocked[door]) {
                        shorten(from[door], to[door], minutes[door]);
                        shorten(to[door], from[door], minutes[door]);
                    }
                }
            }
        }

        private void shorten(int near, int next, int length) {
            if (!isRoom(near) || !isRoom(next) || ways[near] == NONE) {
                return;
            }
            int way = ways[near] + length;
            if (ways[next] == NONE || way < ways[next]) {
                ways[next] = way;
            }
        }
    }

    /** A TEAM, with what it has IN HAND. */
    private static final class Team {
        private final int hands;
        private int free;
        private Thing inHand;

        Team(int hands) {
            this.hands = hands;
        }

        int hands() {
            return hands;
        }

        /** FREE of the TEAM: never ahead of now. */
        int freeFrom(int now) {
            return Math.max(free, now);
        }

        boolean isBusy() {
            return inHand != null;
        }

        void delay(int now, int minutes) {
            free = freeFrom(now) + minutes;
        }

        void begin(Thing thing, int number, int now) {
            inHand = thing;
            free = now + thing.length();
            thing.goTo(IN_HAND + number, now);
        }

        void bringOut(int now) {
            if (inHand != null && free <= now) {
                inHand.goTo(YARD, now);
                inHand.giveTo(NONE);
                inHand = null;
            }
        }
    }

    /** Worths (or costs below 0) by sets of up to 8 members; a set that can't be has NEVER. */
    private static final class Sets {
        static final long NEVER = -1L << 62;

        private Sets() {
        }

        static void clear(long[] table) {
            Arrays.fill(table, NEVER);
            if (table.length > 0) {
                table[0] = 0L;
            }
        }

        static long sum(long a, long b) {
            return a == NEVER || b == NEVER ? NEVER : a + b;
        }

        /**
         * Each set of all becomes the best of its cuts in two, one part by all and the other by one.
         * The greater sets come first, so that the lesser ones are still as they were.
         */
        static void join(long[] all, long[] one, int sets) {
            int bound = Math.min(sets, Math.min(all.length, one.length));
            if (isBare(one, bound)) {
                return;
            }
            if (isBare(all, bound)) {
                System.arraycopy(one, 0, all, 0, bound);
                return;
            }
            for (int set = bound - 1; set >= 0; set--) {
                all[set] = bestCut(all, one, set);
            }
        }

        private static long bestCut(long[] all, long[] one, int set) {
            long best = sum(all[0], one[set]);
            // Each part is less than the one before: they end at 0.
            for (int part = set; part > 0; part = (part - 1) & set) {
                best = Math.max(best, sum(all[part], one[set ^ part]));
            }
            return best;
        }

        /** Whether only the empty set can be, so that nothing is to be joined. */
        private static boolean isBare(long[] table, int bound) {
            if (bound < 1 || table[0] != 0L) {
                return false;
            }
            for (int set = 1; set < bound; set++) {
                if (table[set] != NEVER) {
                    return false;
                }
            }
            return true;
        }
    }

    /** Makes PLANS, each THING's TEAM as its choice, till one is taken as THE PLAN. */
    private static final class Planner {
        // A score is the WORTH ahead of two bits a THING, 3 for TEAM 0: the greatest is BEST.
        private static final int WORTH_SHIFT = 2 * THINGS;

        private final ArrayList<Thing> things;
        private final ArrayList<Team> teams;
        private final House house;
        private final ArrayList<Thing> byDue;
        private final ArrayList<Thing> byRate;
        private final long[] all;
        private final long[] one;
        private final int[] lengths;

        Planner(ArrayList<Thing> things, ArrayList<Team> teams, House house) {
            this.things = things;
            this.teams = teams;
            this.house = house;
            byDue = new ArrayList<Thing>();
            byRate = new ArrayList<Thing>();
            all = new long[SETS];
            one = new long[SETS];
            lengths = new int[SETS];
        }

        /** The JOBS, as they stood when a PLAN was made last, in order of DUE. */
        ArrayList<Thing> jobs() {
            return byDue;
        }

        private void gather(int end) {
            byDue.clear();
            byRate.clear();
            for (int i = 0; i < things.size(); i++) {
                Thing thing = things.get(i);
                if (thing.isAt(IN_ROOM) && house.measure(thing, end)) {
                    byDue.add(rankByDue(thing), thing);
                    byRate.add(rankByRate(thing), thing);
                }
            }
        }

        private int rankByDue(Thing thing) {
            int rank = 0;
            for (int i = 0; i < byDue.size(); i++) {
                if (byDue.get(i).due() <= thing.due()) {
                    rank = i + 1;
                }
            }
            return rank;
        }

        private int rankByRate(Thing thing) {
            int rank = 0;
            for (int i = 0; i < byRate.size(); i++) {
                if (byRate.get(i).rate() >= thing.rate()) {
                    rank = i + 1;
                }
            }
            return rank;
        }

        /** Makes the PLAN by RULE: its WORTH. */
        int makeByRule(int now, int end) {
            gather(end);
            int worth = 0;
            for (int i = 0; i < byRate.size(); i++) {
                Thing thing = byRate.get(i);
                int team = earliestTeam(thing, now);
                thing.choose(team);
                worth += team == NONE ? 0 : thing.worth();
            }
            return worth;
        }

        private int earliestTeam(Thing thing, int now) {
            int best = NONE;
            int bestEnd = NONE;
            for (int k = 0; k < teams.size(); k++) {
                int end = endWith(k, teams.get(k), thing, now);
                if (end != NONE && (best == NONE || end < bestEnd)) {
                    best = k;
                    bestEnd = end;
                }
            }
            return best;
        }

        /** When a TEAM is through with its set and one THING more; NONE if that set doesn't do. */
        private int endWith(int k, Team team, Thing more, int now) {
            int t = team.freeFrom(now);
            for (int i = 0; i < byDue.size(); i++) {
                Thing thing = byDue.get(i);
                if (thing == more || thing.choice() == k) {
                    if (thing.hands() > team.hands() || t > thing.latest()) {
                        return NONE;
                    }
                    t += thing.length();
                }
            }
            return t;
        }

        /** Makes the PLAN by BEST, of 8 THINGS at most: its WORTH. */
        int makeByBest(int now, int end) {
            gather(end);
            int jobs = Math.min(byDue.size(), SEARCHED);
            addLengths(jobs);
            Sets.clear(all);
            for (int k = 0; k < teams.size(); k++) {
                scoreTeam(k, teams.get(k), now, jobs);
                Sets.join(all, one, 1 << jobs);
            }
            long best = 0L;
            for (int set = 0; set < SETS && set < 1 << jobs; set++) {
                best = Math.max(best, all[set]);
            }
            chooseBy(best);
            return (int) (best >> WORTH_SHIFT);
        }

        private void addLengths(int jobs) {
            lengths[0] = 0;
            for (int j = 0; j < jobs && j < byDue.size(); j++) {
                int bit = 1 << j;
                for (int rest = 0; rest < bit && rest + bit < SETS; rest++) {
                    lengths[rest + bit] = lengths[rest] + byDue.get(j).length();
                }
            }
        }

        /** The sets that do for a TEAM: the member of greatest DUE is begun behind all the others. */
        private void scoreTeam(int k, Team team, int now, int jobs) {
            int free = team.freeFrom(now);
            Sets.clear(one);
            for (int j = 0; j < jobs && j < byDue.size(); j++) {
                Thing last = byDue.get(j);
                long score = last.hands() > team.hands() ? Sets.NEVER : scoreOf(last, k);
                int bit = 1 << j;
                for (int rest = 0; rest < bit && rest + bit < SETS; rest++) {
                    boolean does = free + lengths[rest] <= last.latest();
                    one[rest + bit] = does ? Sets.sum(one[rest], score) : Sets.NEVER;
                }
            }
        }

        private static int shiftOf(Thing thing) {
            return 2 * (THINGS - 1 - thing.number());
        }

        private static long scoreOf(Thing thing, int k) {
            return ((long) thing.worth() << WORTH_SHIFT) + ((long) (TEAMS - k) << shiftOf(thing));
        }

        private void chooseBy(long score) {
            for (int j = 0; j < byDue.size(); j++) {
                Thing thing = byDue.get(j);
                int digit = (int) (score >> shiftOf(thing)) & 3;
                thing.choose(digit == 0 ? NONE : TEAMS - digit);
            }
        }

        void takeAsThePlan() {
            for (int i = 0; i < things.size(); i++) {
                if (things.get(i).isAt(IN_ROOM)) {
                    things.get(i).giveTo(NONE);
                }
            }
            for (int i = 0; i < byDue.size(); i++) {
                byDue.get(i).giveTo(byDue.get(i).choice());
            }
        }
    }

    /** THE HOURS: the minutes from the ALARM to its END. */
    private static final class Hours {
        private final ArrayList<Thing> things;
        private final ArrayList<Team> teams;
        private final Planner planner;
        private int now;
        private int end;
        private boolean byBest;

        Hours(ArrayList<Thing> things, House house) {
            this.things = things;
            teams = new ArrayList<Team>();
            planner = new Planner(things, teams, house);
        }

        int teamCount() {
            return teams.size();
        }

        int addTeam(int hands) {
            teams.add(new Team(hands));
            return teams.size() - 1;
        }

        int minuteNow() {
            return now;
        }

        boolean over() {
            return now >= end;
        }

        int ring(int newEnd) {
            end = newEnd;
            return makePlan();
        }

        int planBy(boolean best) {
            byBest = best;
            return makePlan();
        }

        /** Makes THE PLAN anew: its WORTH. */
        int makePlan() {
            int worth = byBest && inRooms() <= SEARCHED ? planner.makeByBest(now, end) : planner.makeByRule(now, end);
            planner.takeAsThePlan();
            return worth;
        }

        int gapNow() {
            return planner.makeByBest(now, end) - planner.makeByRule(now, end);
        }

        private int inRooms() {
            int count = 0;
            for (int i = 0; i < things.size(); i++) {
                count += things.get(i).isAt(IN_ROOM) ? 1 : 0;
            }
            return count;
        }

        boolean isBusy(int team) {
            return within(team, 0, teams.size() - 1) && teams.get(team).isBusy();
        }

        int delay(int team, int minutes) {
            if (within(team, 0, teams.size() - 1)) {
                teams.get(team).delay(now, minutes);
            }
            return makePlan();
        }

        /** The minute in which the JOB of a THING is begun by THE PLAN, or NONE. */
        int beginOf(Thing thing) {
            int k = thing.givenTo();
            if (!thing.isAt(IN_ROOM) || !within(k, 0, teams.size() - 1)) {
                return NONE;
            }
            int t = teams.get(k).freeFrom(now);
            ArrayList<Thing> jobs = planner.jobs();
            for (int i = 0; i < jobs.size(); i++) {
                Thing job = jobs.get(i);
                if (job == thing) {
                    return t;
                }
                t += isLeft(job, k) ? job.length() : 0;
            }
            return NONE;
        }

        private static boolean isLeft(Thing job, int k) {
            return job.isAt(IN_ROOM) && job.givenTo() == k;
        }

        void liveMinute() {
            for (int k = 0; k < teams.size(); k++) {
                beginNext(k, teams.get(k));
            }
            now++;
            for (int k = 0; k < teams.size(); k++) {
                teams.get(k).bringOut(now);
            }
            if (over()) {
                loseTheRest();
            }
        }

        private void beginNext(int k, Team team) {
            if (team.isBusy() || team.freeFrom(now) != now) {
                return;
            }
            ArrayList<Thing> jobs = planner.jobs();
            for (int i = 0; i < jobs.size(); i++) {
                if (isLeft(jobs.get(i), k)) {
                    team.begin(jobs.get(i), k, now);
                    return;
                }
            }
        }

        private void loseTheRest() {
            for (int i = 0; i < things.size(); i++) {
                Thing thing = things.get(i);
                if (thing.isAt(IN_ROOM)) {
                    thing.goTo(LOST, now);
                    thing.giveTo(NONE);
                }
            }
        }
    }

    /** A PLACE with its own copy of the ROW that is its AIR. */
    private static final class Place {
        private final int hands;
        private final int group;
        private final int miles;
        private final Row air;

        Place(int hands, int group, int miles) {
            this.hands = hands;
            this.group = group;
            this.miles = miles;
            air = new Row();
        }

        int hands() {
            return hands;
        }

        int group() {
            return group;
        }

        int miles() {
            return miles;
        }

        int takeAir(Row row) {
            air.takeOver(row);
            return air.size();
        }

        /** AIR in a WEEK, or Row.NO_AIR. */
        long airOf(int week) {
            return air.airOf(week);
        }
    }

    /** THE YEARS: PLACES, BANDS, KEEP and FUEL. */
    private static final class Years {
        private final ArrayList<Thing> things;
        private final ArrayList<Place> places;
        private final int[] from;
        private final int[] to;
        private final int[] keeps;
        private int week;
        private int fuelLeft;

        Years(ArrayList<Thing> things) {
            this.things = things;
            places = new ArrayList<Place>();
            from = new int[KINDS];
            to = new int[KINDS];
            Arrays.fill(to, 100);
            keeps = new int[KINDS];
        }

        int placeCount() {
            return places.size();
        }

        int addPlace(int hands, int group, int miles) {
            places.add(new Place(hands, group, miles));
            return places.size() - 1;
        }

        Place placeAt(int number) {
            return within(number, 0, places.size() - 1) ? places.get(number) : null;
        }

        int weekNow() {
            return week;
        }

        int timeNow() {
            return WEEK_ZERO + week;
        }

        void changeBand(int kind, int newFrom, int newTo) {
            if (isKind(kind)) {
                from[kind] = newFrom;
                to[kind] = newTo;
            }
        }

        int keepOf(int kind) {
            return isKind(kind) ? keeps[kind] : 0;
        }

        int changeKeep(int kind, int n) {
            int before = keepOf(kind);
            if (isKind(kind)) {
                keeps[kind] = n;
            }
            return before;
        }

        private static boolean isKind(int kind) {
            return within(kind, 0, KINDS - 1);
        }

        int fuelLeft() {
            return fuelLeft;
        }

        int pour(int n) {
            fuelLeft = Math.min(MOST_FUEL, fuelLeft + n);
            return fuelLeft;
        }

        boolean canPay(int cost) {
            return cost <= fuelLeft;
        }

        int costOf(Thing thing, Place target) {
            Place own = placeAt(thing.placeNumber());
            return thing.hands() * (target.miles() + (own == null ? 0 : own.miles()));
        }

        int handsIn(int place) {
            int sum = 0;
            for (int i = 0; i < things.size(); i++) {
                sum += things.get(i).placeNumber() == place ? things.get(i).hands() : 0;
            }
            return sum;
        }

        /** Moves a THING to a PLACE and pays for it: FUEL left. */
        int bring(Thing thing, int place) {
            Place target = placeAt(place);
            if (target != null) {
                fuelLeft -= costOf(thing, target);
                thing.goTo(IN_PLACE + place, timeNow());
            }
            return fuelLeft;
        }

        void liveWeek() {
            for (int i = 0; i < things.size(); i++) {
                things.get(i).grow(harmOf(things.get(i)));
            }
            week++;
        }

        private int harmOf(Thing thing) {
            if (thing.isAt(YARD)) {
                return YARD_HARM;
            }
            Place place = placeAt(thing.placeNumber());
            if (place == null) {
                return 0;
            }
            long air = place.airOf(week);
            return air == Row.NO_AIR ? MISSING_HARM : farFromBand(air, thing.kind());
        }

        private int farFromBand(long air, int kind) {
            if (!isKind(kind)) {
                return 0;
            }
            long distance = Math.max(0L, Math.max(from[kind] - air, air - to[kind]));
            return (int) Math.min(MOST_HARM, distance);
        }

        boolean suits(Place place, Thing thing) {
            long air = place.airOf(week);
            return air != Row.NO_AIR && farFromBand(air, thing.kind()) == 0;
        }

        /** Strikes all PLACES of a GROUP: how many THINGS are LOST. */
        int strike(int group) {
            int count = 0;
            for (int i = 0; i < things.size(); i++) {
                Place place = placeAt(things.get(i).placeNumber());
                if (place != null && place.group() == group) {
                    things.get(i).goTo(LOST, timeNow());
                    count++;
                }
            }
            return count;
        }
    }

    /** Finds THE SPREAD, PLACE by PLACE and GROUP by GROUP over all sets of the THINGS that are moved. */
    private static final class Spread {
        // A score is below 0: FUEL ahead of three bits of PLACE a THING; the greatest is THE SPREAD.
        private static final int PLACE_BITS = 3;
        private static final int FUEL_SHIFT = PLACE_BITS * THINGS;

        private final ArrayList<Thing> things;
        private final Years years;
        private final ArrayList<Thing> movers;
        private final long[] all;
        private final long[] ofGroup;
        private final long[] one;
        private final int[] loads;
        private final int[] kindSets;
        private final int[] totals;
        private final int[] stays;
        private final int[] taken;

        Spread(ArrayList<Thing> things, Years years) {
            this.things = things;
            this.years = years;
            movers = new ArrayList<Thing>();
            all = new long[SETS];
            ofGroup = new long[SETS];
            one = new long[SETS];
            loads = new int[SETS];
            kindSets = new int[KINDS];
            totals = new int[KINDS];
            stays = new int[GROUPS * KINDS];
            taken = new int[PLACES];
        }

        /** FUEL of THE SPREAD, or the refusal. */
        int find() {
            gather();
            if (movers.size() > SEARCHED) {
                return FULL;
            }
            noteMovers();
            Sets.clear(all);
            for (int group = 0; group < GROUPS; group++) {
                scoreGroup(group);
                Sets.join(all, ofGroup, sets());
            }
            long score = scoreFound();
            return score == Sets.NEVER ? WRONG : (int) (-score >> FUEL_SHIFT);
        }

        private int sets() {
            return 1 << Math.min(movers.size(), SEARCHED);
        }

        private long scoreFound() {
            return within(sets(), 1, SETS) ? all[sets() - 1] : Sets.NEVER;
        }

        /** Parts the THINGS that are moved from those that stay where they are. */
        private void gather() {
            movers.clear();
            Arrays.fill(totals, 0);
            Arrays.fill(stays, 0);
            Arrays.fill(taken, 0);
            for (int i = 0; i < things.size(); i++) {
                Thing thing = things.get(i);
                if (thing.isKept() && within(thing.kind(), 0, KINDS - 1)) {
                    totals[thing.kind()]++;
                    moveOrStay(thing, years.placeAt(thing.placeNumber()));
                }
            }
        }

        private void moveOrStay(Thing thing, Place place) {
            if (place == null || !years.suits(place, thing)) {
                movers.add(thing);
                return;
            }
            int at = place.group() * KINDS + thing.kind();
            if (within(at, 0, stays.length - 1)) {
                stays[at]++;
            }
            if (within(thing.placeNumber(), 0, PLACES - 1)) {
                taken[thing.placeNumber()] += thing.hands();
            }
        }

        private void noteMovers() {
            Arrays.fill(kindSets, 0);
            loads[0] = 0;
            for (int m = 0; m < movers.size() && m < SEARCHED; m++) {
                Thing thing = movers.get(m);
                int bit = 1 << m;
                if (within(thing.kind(), 0, KINDS - 1)) {
                    kindSets[thing.kind()] |= bit;
                }
                for (int rest = 0; rest < bit && rest + bit < SETS; rest++) {
                    loads[rest + bit] = loads[rest] + thing.hands();
                }
            }
        }

        private void scoreGroup(int group) {
            Sets.clear(ofGroup);
            for (int p = 0; p < years.placeCount(); p++) {
                Place place = years.placeAt(p);
                if (place != null && place.group() == group) {
                    scorePlace(p, place);
                    Sets.join(ofGroup, one, sets());
                }
            }
            for (int kind = 0; kind < KINDS; kind++) {
                strikeAbove(mostIn(group, kind), kindSets[kind]);
            }
        }

        /** How many THINGS of a KIND may be brought to a GROUP, so that KEEP of them are elsewhere. */
        private int mostIn(int group, int kind) {
            int at = group * KINDS + kind;
            int staying = within(at, 0, stays.length - 1) ? stays[at] : 0;
            int total = within(kind, 0, KINDS - 1) ? totals[kind] : 0;
            return total - years.keepOf(kind) - staying;
        }

        private void strikeAbove(int most, int kindSet) {
            for (int set = 0; set < sets() && set < SETS; set++) {
                if (Integer.bitCount(set & kindSet) > most) {
                    ofGroup[set] = Sets.NEVER;
                }
            }
        }

        private void scorePlace(int p, Place place) {
            int room = place.hands() - (within(p, 0, PLACES - 1) ? taken[p] : 0);
            Sets.clear(one);
            for (int m = 0; m < movers.size() && m < SEARCHED; m++) {
                Thing thing = movers.get(m);
                long score = years.suits(place, thing) ? scoreOf(thing, p, place) : Sets.NEVER;
                int bit = 1 << m;
                for (int rest = 0; rest < bit && rest + bit < SETS; rest++) {
                    boolean fits = loads[rest + bit] <= room;
                    one[rest + bit] = fits ? Sets.sum(one[rest], score) : Sets.NEVER;
                }
            }
        }

        private static int shiftOf(Thing thing) {
            return PLACE_BITS * (THINGS - 1 - thing.number());
        }

        private long scoreOf(Thing thing, int p, Place place) {
            return -(((long) years.costOf(thing, place) << FUEL_SHIFT) + ((long) p << shiftOf(thing)));
        }

        /** Does THE SPREAD that was found last. */
        void carryOut() {
            long score = -scoreFound();
            for (int m = 0; m < movers.size(); m++) {
                Thing thing = movers.get(m);
                years.bring(thing, (int) (score >> shiftOf(thing)) & 7);
            }
        }
    }
}
