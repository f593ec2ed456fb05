import java.util.ArrayList;
import java.util.Arrays;
import java.util.Comparator;
import java.util.List;
import java.util.regex.Matcher;
import java.util.regex.Pattern;

/**
 * The whole document once more, as slow and plain as it is worded. Of each call all refusals that fit are told by no(),
 * in any order, and the first one in the document's order is the answer.
 */
final class MuseumModel {
    private static final Pattern LABEL = Pattern.compile("k([0-3])w(100|[1-9][0-9]?)h([1-4])r(1[01]|[1-9])p(20|1[0-9]|[0-9])");

    private static final class Thing {
        int kind;
        int worth;
        int hands;
        int room;
        int pack;
        int where;
        int harm;
        final List<int[]> seals = new ArrayList<>();
        final List<int[]> papers = new ArrayList<>();
    }

    private static final class Row {
        int sort;
        long[] elements;
    }

    private static final class Place {
        int room;
        int group;
        int miles;
        Row air;
    }

    private final List<int[]> doors = new ArrayList<>();
    private final List<Boolean> blocked = new ArrayList<>();
    private final List<Integer> teams = new ArrayList<>();
    private final List<Thing> things = new ArrayList<>();
    private final List<Place> places = new ArrayList<>();
    private final Object[] shelves = new Object[8];
    private final int[] dangers = new int[12];
    private final int[] bandFrom = new int[4];
    private final int[] bandTo = {100, 100, 100, 100};
    private final int[] keeps = new int[4];
    private final int[] refusals = new int[8];
    private final int[] free = new int[3];
    private final Thing[] inHand = new Thing[3];
    private List<List<Thing>> plan = new ArrayList<>();
    private boolean best = false;
    private int latestFault = -1;
    private int phase = 0;
    private int now = 0;
    private int end = 0;
    private int week = 0;
    private int fuelLeft = 0;

    private int refusal = 0;

    MuseumModel() {
        Arrays.fill(dangers, -1);
    }

    /** One refusal, if it fits. */
    private MuseumModel no(int number, boolean fits) {
        if (fits && (refusal == 0 || number > refusal)) {
            refusal = number;
        }
        return this;
    }

    private boolean refused() {
        refusals[-refusal]++;
        return refusal != 0;
    }

    /** The refusal of the call, which is over by it. */
    private int answer() {
        int number = refusal;
        refusal = 0;
        return number;
    }

    private static boolean in(int v, int least, int most) {
        return v >= least && v <= most;
    }

    private MuseumModel noShelf(int s) {
        return no(-1, !in(s, 0, 7));
    }

    private MuseumModel noRow(int s) {
        noShelf(s);
        if (in(s, 0, 7)) {
            no(-2, shelves[s] instanceof Thing);
            no(-3, shelves[s] == null);
        }
        return this;
    }

    private Row rowOf(int s) {
        return in(s, 0, 7) && shelves[s] instanceof Row ? (Row) shelves[s] : null;
    }

    private MuseumModel noThing(int thing) {
        return no(-1, !isThing(thing));
    }

    private boolean isThing(int thing) {
        return in(thing, 0, things.size() - 1);
    }

    private MuseumModel notIn(int wanted) {
        return no(-6, phase != wanted);
    }

    // ---- THE HOUSE ----

    public int door(int a, int b, int minutes) {
        no(-1, !in(a, 0, 11)).no(-1, !in(b, 0, 11)).no(-6, a == b).no(-6, !in(minutes, 1, 9)).notIn(0).no(-7, doors.size() == 20);
        if (refused()) {
            return answer();
        }
        doors.add(new int[] {a, b, minutes});
        blocked.add(false);
        return doors.size() - 1;
    }

    public int team(int hands) {
        no(-6, !in(hands, 1, 4)).notIn(0).no(-7, teams.size() == 3);
        if (refused()) {
            return answer();
        }
        teams.add(hands);
        return teams.size() - 1;
    }

    public int thing(int kind, int worth, int hands, int room, int pack) {
        no(-1, !in(kind, 0, 3)).no(-1, !in(room, 1, 11)).no(-6, !in(worth, 1, 100)).no(-6, !in(hands, 1, 4)).no(-6, !in(pack, 0, 20));
        notIn(0).no(-7, things.size() == 16);
        if (refused()) {
            return answer();
        }
        Thing t = new Thing();
        t.kind = kind;
        t.worth = worth;
        t.hands = hands;
        t.room = room;
        t.pack = pack;
        t.where = 100 + room;
        things.add(t);
        return things.size() - 1;
    }

    private static String textOf(Row row) {
        StringBuilder text = new StringBuilder();
        for (long element : row.elements) {
            int letter = (int) element;
            text.append(letter > 32 && letter < 127 ? (char) letter : ' ');
        }
        return text.toString();
    }

    private static int faultOf(String text) {
        if (LABEL.matcher(text).matches()) {
            return -1;
        }
        for (int n = text.length(); n > 0; n--) {
            Matcher start = LABEL.matcher(text.substring(0, n));
            if (start.matches() || start.hitEnd()) {
                return n;
            }
        }
        return 0;
    }

    public int label(int s) {
        noRow(s);
        Row row = rowOf(s);
        if (row != null) {
            latestFault = faultOf(textOf(row));
            no(-6, latestFault >= 0).notIn(0).no(-7, things.size() == 16);
        }
        if (refused()) {
            return answer();
        }
        Matcher label = LABEL.matcher(textOf(row));
        label.matches();
        int[] n = new int[6];
        for (int i = 1; i <= 5; i++) {
            n[i] = Integer.parseInt(label.group(i));
        }
        return thing(n[1], n[2], n[3], n[4], n[5]);
    }

    public int fault() {
        return latestFault;
    }

    public int danger(int room, int minute) {
        no(-1, !in(room, 1, 11)).no(-6, !in(minute, -1, 240)).no(-6, phase == 1 && minute != -1 && minute < now).no(-6, phase == 2);
        if (refused()) {
            return answer();
        }
        int was = dangers[room];
        dangers[room] = minute;
        planAnew();
        return was;
    }

    // ---- SHELVES ----

    public int row(int s, int sort, int n) {
        noShelf(s).no(-4, n < 0).no(-6, !in(sort, 0, 3)).no(-7, n > 60);
        if (refused()) {
            return answer();
        }
        Row row = new Row();
        row.sort = sort;
        row.elements = new long[n];
        shelves[s] = row;
        return 1;
    }

    public int set(int s, int i, long v) {
        noRow(s);
        Row row = rowOf(s);
        no(-5, row != null && !in(i, 0, row.elements.length - 1));
        if (refused()) {
            return answer();
        }
        row.elements[i] = row.sort == 0 ? (byte) v : row.sort == 1 ? (short) v : row.sort == 2 ? (int) v : v;
        return 1;
    }

    public int copy(int p, int q, int i, int j, int n) {
        noRow(p).noRow(q);
        Row from = rowOf(p);
        Row to = rowOf(q);
        if (from != null && to != null) {
            no(-2, from.sort != to.sort);
            no(-5, i < 0).no(-5, j < 0).no(-5, (long) i + n > from.elements.length).no(-5, (long) j + n > to.elements.length);
        }
        no(-4, n < 0);
        if (refused()) {
            return answer();
        }
        long[] ahead = from.elements.clone();
        for (int m = 0; m < n; m++) {
            to.elements[j + m] = ahead[i + m];
        }
        return 1;
    }

    public long element(int s, int i) {
        Row row = rowOf(s);
        return row != null && in(i, 0, row.elements.length - 1) ? row.elements[i] : 0;
    }

    public int show(int s, int thing) {
        noShelf(s).no(-1, thing != -1 && !isThing(thing));
        if (refused()) {
            return answer();
        }
        shelves[s] = thing == -1 ? null : things.get(thing);
        return thing == -1 ? 0 : 1;
    }

    public int holds(int s) {
        if (!in(s, 0, 7) || shelves[s] == null) {
            return -1;
        }
        return shelves[s] instanceof Row ? 100 + ((Row) shelves[s]).sort : things.indexOf(shelves[s]);
    }

    public int worthIn(int s) {
        noShelf(s);
        if (in(s, 0, 7)) {
            no(-2, shelves[s] instanceof Row).no(-3, shelves[s] == null);
        }
        return refused() ? answer() : ((Thing) shelves[s]).worth;
    }

    // ---- THE HOURS ----

    public int far(int room) {
        if (!in(room, 0, 11)) {
            return -1;
        }
        int[][] way = new int[12][12];
        for (int a = 0; a < 12; a++) {
            Arrays.fill(way[a], 9999);
            way[a][a] = 0;
        }
        for (int d = 0; d < doors.size(); d++) {
            int[] door = doors.get(d);
            if (!blocked.get(d)) {
                way[door[0]][door[1]] = Math.min(way[door[0]][door[1]], door[2]);
                way[door[1]][door[0]] = Math.min(way[door[1]][door[0]], door[2]);
            }
        }
        for (int by = 0; by < 12; by++) {
            for (int a = 0; a < 12; a++) {
                for (int b = 0; b < 12; b++) {
                    way[a][b] = Math.min(way[a][b], way[a][by] + way[by][b]);
                }
            }
        }
        return way[0][room] >= 9999 ? -1 : way[0][room];
    }

    private int length(Thing t) {
        return Math.max(1, 2 * far(t.room) + t.pack);
    }

    /** The latest minute in which its JOB may be begun; -1: there is none. */
    private int latest(Thing t) {
        int far = far(t.room);
        int length = length(t);
        for (int m = 240; m >= 0 && far >= 0; m--) {
            boolean safe = dangers[t.room] == -1 || m + far < dangers[t.room];
            if (safe && m + length <= end) {
                return m;
            }
        }
        return -1;
    }

    /** A PLAN in the making: what each THING in a ROOM asks for. */
    private final class Plans {
        final List<Thing> left = inRooms();
        final int many = left.size();
        final int[] lengths = new int[many];
        final int[] latest = new int[many];
        final Integer[] byDue = new Integer[many];

        Plans() {
            for (int i = 0; i < many; i++) {
                lengths[i] = length(left.get(i));
                latest[i] = latest(left.get(i));
                byDue[i] = i;
            }
            Arrays.sort(byDue, Comparator.comparing((Integer i) -> latest[i] + lengths[i]).thenComparing(i -> i));
        }

        boolean does(int k, int set) {
            int t = freeOf(k);
            for (int i : byDue) {
                if ((set >> i & 1) == 0) {
                    continue;
                }
                if (left.get(i).hands > teams.get(k) || t > latest[i]) {
                    return false;
                }
                t += lengths[i];
            }
            return true;
        }

        int ends(int k, int set) {
            int t = freeOf(k);
            for (int i = 0; i < many; i++) {
                t += (set >> i & 1) == 1 ? lengths[i] : 0;
            }
            return t;
        }

        int[] byRule() {
            Integer[] order = byDue.clone();
            Arrays.sort(order, Comparator.comparing((Integer i) -> -(left.get(i).worth * 1000 / lengths[i])).thenComparing(i -> i));
            int[] sets = new int[teams.size()];
            for (int i : order) {
                int to = -1;
                for (int k = 0; k < sets.length && latest[i] >= 0; k++) {
                    int with = sets[k] | 1 << i;
                    if (does(k, with) && (to < 0 || ends(k, with) < ends(to, sets[to] | 1 << i))) {
                        to = k;
                    }
                }
                if (to >= 0) {
                    sets[to] |= 1 << i;
                }
            }
            return sets;
        }

        /** All PLANS in the order of ties: THING 0 by TEAM 0, by TEAM 1, .., by none; then THING 1. */
        int[] byBest() {
            boolean[][] does = new boolean[teams.size()][1 << many];
            for (int k = 0; k < does.length; k++) {
                for (int set = 0; set < 1 << many; set++) {
                    does[k][set] = does(k, set);
                }
            }
            int[] most = new int[teams.size()];
            int mostWorth = 0;
            int base = teams.size() + 1;
            int all = (int) Math.pow(base, many);
            for (int code = 0; code < all; code++) {
                int[] sets = new int[teams.size()];
                int worth = 0;
                int rest = code;
                for (int i = many - 1; i >= 0; i--) {
                    int k = rest % base;
                    rest /= base;
                    if (k < sets.length) {
                        sets[k] |= 1 << i;
                        worth += left.get(i).worth;
                    }
                }
                boolean stands = worth > mostWorth || code == 0 && worth == 0;
                for (int k = 0; k < sets.length && stands; k++) {
                    stands = does[k][sets[k]];
                }
                if (stands) {
                    most = sets;
                    mostWorth = worth;
                }
            }
            return most;
        }

        int worth(int[] sets) {
            int sum = 0;
            for (int set : sets) {
                for (int i = 0; i < many; i++) {
                    sum += (set >> i & 1) == 1 ? left.get(i).worth : 0;
                }
            }
            return sum;
        }

        List<List<Thing>> rows(int[] sets) {
            List<List<Thing>> rows = new ArrayList<>();
            for (int set : sets) {
                List<Thing> row = new ArrayList<>();
                for (int i : byDue) {
                    if ((set >> i & 1) == 1) {
                        row.add(left.get(i));
                    }
                }
                rows.add(row);
            }
            return rows;
        }
    }

    private List<Thing> inRooms() {
        List<Thing> left = new ArrayList<>();
        for (Thing t : things) {
            if (t.where < 200) {
                left.add(t);
            }
        }
        return left;
    }

    private int freeOf(int k) {
        return Math.max(now, free[k]);
    }

    private int planAnew() {
        if (phase != 1) {
            return 0;
        }
        Plans plans = new Plans();
        int[] sets = best && plans.many <= 8 ? plans.byBest() : plans.byRule();
        plan = plans.rows(sets);
        return plans.worth(sets);
    }

    public int alarm(int newEnd) {
        no(-6, !in(newEnd, 1, 240)).notIn(0);
        if (refused()) {
            return answer();
        }
        phase = 1;
        end = newEnd;
        return planAnew();
    }

    public int plan(boolean byBest) {
        notIn(1).no(-7, byBest && inRooms().size() > 8);
        if (refused()) {
            return answer();
        }
        best = byBest;
        return planAnew();
    }

    public int gap() {
        notIn(1).no(-7, inRooms().size() > 8);
        if (refused()) {
            return answer();
        }
        Plans plans = new Plans();
        return plans.worth(plans.byBest()) - plans.worth(plans.byRule());
    }

    public int block(int door) {
        boolean there = in(door, 0, doors.size() - 1);
        no(-1, !there).no(-6, phase == 2).no(-6, there && blocked.get(door));
        if (refused()) {
            return answer();
        }
        blocked.set(door, true);
        return planAnew();
    }

    public int late(int team, int minutes) {
        boolean there = in(team, 0, teams.size() - 1);
        no(-1, !there).no(-6, !in(minutes, 1, 60)).notIn(1).no(-6, there && inHand[team] != null);
        if (refused()) {
            return answer();
        }
        free[team] = freeOf(team) + minutes;
        return planAnew();
    }

    private void go(Thing t, int where) {
        t.seals.add(new int[] {phase == 2 ? 1000 + week : now, t.where, where});
        t.where = where;
    }

    public int minutes(int n) {
        no(-6, !in(n, 1, 240)).notIn(1);
        if (refused()) {
            return answer();
        }
        for (int i = 0; i < n && now < end; i++) {
            for (int k = 0; k < teams.size(); k++) {
                if (inHand[k] == null && freeOf(k) == now && !plan.get(k).isEmpty()) {
                    inHand[k] = plan.get(k).remove(0);
                    free[k] = now + length(inHand[k]);
                    go(inHand[k], 200 + k);
                }
            }
            now++;
            for (int k = 0; k < teams.size(); k++) {
                if (inHand[k] != null && free[k] == now) {
                    go(inHand[k], 300);
                    inHand[k] = null;
                }
            }
        }
        if (now == end) {
            for (Thing t : inRooms()) {
                go(t, 500);
            }
            phase = 2;
            plan.clear();
        }
        return now;
    }

    public int given(int thing) {
        for (int k = 0; k < plan.size() && isThing(thing); k++) {
            if (plan.get(k).contains(things.get(thing)) || inHand[k] == things.get(thing)) {
                return k;
            }
        }
        return -1;
    }

    public int begins(int thing) {
        for (int k = 0; k < plan.size() && isThing(thing); k++) {
            int t = freeOf(k);
            for (Thing job : plan.get(k)) {
                if (job == things.get(thing)) {
                    return t;
                }
                t += length(job);
            }
        }
        return -1;
    }

    // ---- THE YEARS ----

    public int place(int room, int group, int miles) {
        no(-1, !in(group, 0, 3)).no(-6, !in(room, 1, 40)).no(-6, !in(miles, 1, 9)).no(-7, places.size() == 5);
        if (refused()) {
            return answer();
        }
        Place p = new Place();
        p.room = room;
        p.group = group;
        p.miles = miles;
        places.add(p);
        return places.size() - 1;
    }

    private boolean isPlace(int place) {
        return in(place, 0, places.size() - 1);
    }

    public int air(int place, int s) {
        no(-1, !isPlace(place)).noRow(s);
        if (refused()) {
            return answer();
        }
        Row row = new Row();
        row.sort = rowOf(s).sort;
        row.elements = rowOf(s).elements.clone();
        places.get(place).air = row;
        return row.elements.length;
    }

    /** AIR in a WEEK; null: MISSING. */
    private static Integer airOf(Place p, int inWeek) {
        if (p.air == null || p.air.elements.length == 0) {
            return null;
        }
        long element = p.air.elements[inWeek % p.air.elements.length];
        long[] least = {Byte.MIN_VALUE, Short.MIN_VALUE, Integer.MIN_VALUE, Long.MIN_VALUE};
        return element == least[p.air.sort] ? null : Integer.valueOf((int) element);
    }

    public int airIn(int place, int inWeek) {
        if (!isPlace(place) || inWeek < 0) {
            return -1;
        }
        Integer air = airOf(places.get(place), inWeek);
        return air == null ? -2 : air;
    }

    public int band(int kind, int from, int to) {
        no(-1, !in(kind, 0, 3)).no(-6, !(0 <= from && from <= to && to <= 100));
        if (refused()) {
            return answer();
        }
        bandFrom[kind] = from;
        bandTo[kind] = to;
        return 1;
    }

    public int keep(int kind, int n) {
        no(-1, !in(kind, 0, 3)).no(-6, !in(n, 0, 9));
        if (refused()) {
            return answer();
        }
        int was = keeps[kind];
        keeps[kind] = n;
        return was;
    }

    public int fuel(int n) {
        no(-6, !in(n, 0, 10000));
        if (refused()) {
            return answer();
        }
        fuelLeft = Math.min(1000000, fuelLeft + n);
        return fuelLeft;
    }

    private boolean good(Place p, Thing t) {
        Integer air = airOf(p, week);
        return air != null && bandFrom[t.kind] <= air && air <= bandTo[t.kind];
    }

    private Place placeOf(Thing t) {
        return t.where >= 400 && t.where < 500 ? places.get(t.where - 400) : null;
    }

    private int cost(Thing t, Place to) {
        return t.hands * ((placeOf(t) == null ? 0 : placeOf(t).miles) + to.miles);
    }

    private int[] leastSpread;
    private int leastFuel;

    public int spread(boolean move) {
        if (notIn(2).refused()) {
            return answer();
        }
        List<Thing> movers = new ArrayList<>();
        Place[] then = new Place[things.size()];
        int[] room = new int[places.size()];
        for (int p = 0; p < room.length; p++) {
            room[p] = places.get(p).room;
        }
        for (int i = 0; i < then.length; i++) {
            Thing t = things.get(i);
            if (t.where == 300 || placeOf(t) != null && !good(placeOf(t), t)) {
                movers.add(t);
            } else if (placeOf(t) != null) {
                then[i] = placeOf(t);
                room[places.indexOf(then[i])] -= t.hands;
            }
        }
        if (no(-7, movers.size() > 8).refused()) {
            return answer();
        }
        leastSpread = null;
        trySpread(movers, 0, 0, then, room, new int[movers.size()]);
        if (no(-6, leastSpread == null).refused()) {
            return answer();
        }
        if (no(-7, move && leastFuel > fuelLeft).refused()) {
            return answer();
        }
        for (int m = 0; m < movers.size() && move; m++) {
            go(movers.get(m), 400 + leastSpread[m]);
        }
        fuelLeft -= move ? leastFuel : 0;
        return leastFuel;
    }

    private void trySpread(List<Thing> movers, int at, int cost, Place[] then, int[] room, int[] to) {
        if (leastSpread != null && cost >= leastFuel) {
            return;
        }
        if (at == movers.size()) {
            if (kept(then)) {
                leastSpread = to.clone();
                leastFuel = cost;
            }
            return;
        }
        Thing t = movers.get(at);
        for (int p = 0; p < room.length; p++) {
            Place place = places.get(p);
            if (place == placeOf(t) || !good(place, t) || room[p] < t.hands) {
                continue;
            }
            room[p] -= t.hands;
            then[things.indexOf(t)] = place;
            to[at] = p;
            trySpread(movers, at + 1, cost + cost(t, place), then, room, to);
            then[things.indexOf(t)] = null;
            room[p] += t.hands;
        }
    }

    private boolean kept(Place[] then) {
        for (int group = 0; group < 4; group++) {
            for (int kind = 0; kind < 4; kind++) {
                int elsewhere = 0;
                for (int i = 0; i < then.length; i++) {
                    if (then[i] != null && things.get(i).kind == kind && then[i].group != group) {
                        elsewhere++;
                    }
                }
                if (elsewhere < keeps[kind]) {
                    return false;
                }
            }
        }
        return true;
    }

    private boolean kept(Thing t) {
        return t.where == 300 || placeOf(t) != null;
    }

    public int move(int thing, int place) {
        noThing(thing).no(-1, !isPlace(place)).notIn(2);
        if (isThing(thing) && isPlace(place)) {
            Thing t = things.get(thing);
            int load = t.hands;
            for (Thing other : things) {
                load += other.where == 400 + place ? other.hands : 0;
            }
            no(-6, !kept(t)).no(-6, t.where == 400 + place).no(-6, load > places.get(place).room);
            no(-7, cost(t, places.get(place)) > fuelLeft);
        }
        if (refused()) {
            return answer();
        }
        fuelLeft -= cost(things.get(thing), places.get(place));
        go(things.get(thing), 400 + place);
        return fuelLeft;
    }

    public int weeks(int n) {
        no(-6, !in(n, 1, 60)).notIn(2).no(-7, (long) week + n > 1000);
        if (refused()) {
            return answer();
        }
        for (int i = 0; i < n; i++) {
            for (Thing t : things) {
                t.harm += t.where == 300 ? 10 : placeOf(t) != null ? harm(t, airOf(placeOf(t), week)) : 0;
            }
            week++;
        }
        return week;
    }

    private int harm(Thing t, Integer air) {
        if (air == null) {
            return 5;
        }
        long far = air < bandFrom[t.kind] ? (long) bandFrom[t.kind] - air : air > bandTo[t.kind] ? (long) air - bandTo[t.kind] : 0;
        return far > 100 ? 100 : (int) far;
    }

    public int lose(int group) {
        no(-1, !in(group, 0, 3)).notIn(2);
        if (refused()) {
            return answer();
        }
        int lost = 0;
        for (Thing t : things) {
            if (placeOf(t) != null && placeOf(t).group == group) {
                go(t, 500);
                lost++;
            }
        }
        return lost;
    }

    public int found(int thing) {
        noThing(thing).notIn(2).no(-6, isThing(thing) && things.get(thing).where != 500);
        if (refused()) {
            return answer();
        }
        go(things.get(thing), 300);
        return 1;
    }

    // ---- PAPERS, SEALS, lists ----

    public int paper(int thing, int who, int from, int to) {
        noThing(thing).no(-6, !in(who, 0, 9)).no(-6, !in(from, 0, 200)).no(-6, !in(to, 0, 200)).no(-6, from > to);
        no(-7, isThing(thing) && things.get(thing).papers.size() == 6);
        if (refused()) {
            return answer();
        }
        things.get(thing).papers.add(new int[] {who, from, to});
        return things.get(thing).papers.size();
    }

    public int holder(int thing, int year) {
        List<Integer> told = new ArrayList<>();
        if (isThing(thing)) {
            for (int[] paper : things.get(thing).papers) {
                if (in(year, paper[1], paper[2]) && !told.contains(paper[0])) {
                    told.add(paper[0]);
                }
            }
        }
        return told.isEmpty() ? -1 : told.size() > 1 ? 100 : told.get(0);
    }

    public int giveBack(int thing, int year) {
        noThing(thing).notIn(2).no(-6, isThing(thing) && !kept(things.get(thing))).no(-6, !in(holder(thing, year), 0, 9));
        if (refused()) {
            return answer();
        }
        go(things.get(thing), 600 + holder(thing, year));
        return holder(thing, year);
    }

    public int about(int thing, int what) {
        if (!isThing(thing) || !in(what, 0, 7)) {
            return -1;
        }
        Thing t = things.get(thing);
        return new int[] {t.where, t.kind, t.worth, t.hands, t.pack, t.harm, t.seals.size(), t.papers.size()}[what];
    }

    public int seal(int thing, int i, int what) {
        boolean there = isThing(thing) && in(i, 0, things.get(thing).seals.size() - 1) && in(what, 0, 2);
        return there ? things.get(thing).seals.get(i)[what] : -1;
    }

    private static Long at(Row row, int i) {
        return i < row.elements.length ? Long.valueOf(row.elements[i]) : null;
    }

    private static boolean alike(Long a, Long b) {
        return a != null && b != null && a.longValue() == b.longValue();
    }

    public int quarrel(int a, int b, int c) {
        noRow(a).noRow(b).noRow(c);
        if (refused()) {
            return answer();
        }
        int changes = 0;
        for (int i = 0; i < things.size(); i++) {
            Long[] all = {at(rowOf(a), i), at(rowOf(b), i), at(rowOf(c), i)};
            int least = 3;
            for (Long kept : all) {
                int change = 0;
                for (Long other : all) {
                    change += alike(kept, other) ? 0 : 1;
                }
                least = Math.min(least, change);
            }
            changes += least;
        }
        return changes;
    }

    public long said(int a, int b, int c, int thing) {
        if (rowOf(a) == null || rowOf(b) == null || rowOf(c) == null || !isThing(thing)) {
            return -1;
        }
        Long x = at(rowOf(a), thing);
        Long y = at(rowOf(b), thing);
        Long z = at(rowOf(c), thing);
        return alike(x, y) || alike(x, z) ? x : alike(y, z) ? y : -1;
    }

    public int status(int what) {
        int[] zones = new int[7];
        for (Thing t : things) {
            zones[t.where / 100]++;
        }
        int[] told = {things.size(), doors.size(), teams.size(), places.size(), zones[1], zones[2], zones[3], zones[4], zones[5], zones[6], phase,
            refusals[1], refusals[2], refusals[3], refusals[4], refusals[5], refusals[6], refusals[7], now, week, fuelLeft};
        return in(what, 0, 20) ? told[what] : -1;
    }
}
