import java.util.ArrayList;
import java.util.List;

/** THE HOURS as the document words them, by trying every PLAN: slow and plain. */
final class HoursModel {
    final List<int[]> doors = new ArrayList<>();
    final List<int[]> things = new ArrayList<>();
    final List<Integer> hands = new ArrayList<>();
    final boolean[] blocked = new boolean[20];
    final int[] danger = new int[12];
    final int[] where = new int[16];
    final int[] free = new int[3];
    final int[] holding = {-1, -1, -1};
    final List<List<Integer>> rows = new ArrayList<>();
    final List<List<String>> seals = new ArrayList<>();
    int now = 0;
    int end = 0;
    boolean best = false;

    HoursModel() {
        java.util.Arrays.fill(danger, -1);
    }

    void addThing(int... thing) {
        where[things.size()] = 100 + thing[3];
        things.add(thing);
        seals.add(new ArrayList<>());
    }

    int far(int room) {
        return far(room, 0, new boolean[12], 0);
    }

    /** The least over all ways that come to no ROOM twice. */
    private int far(int room, int at, boolean[] been, int so) {
        if (at == room) {
            return so;
        }
        int least = -1;
        been[at] = true;
        for (int d = 0; d < doors.size(); d++) {
            int[] door = doors.get(d);
            int next = door[0] == at ? door[1] : door[1] == at ? door[0] : -1;
            if (blocked[d] || next < 0 || been[next]) {
                continue;
            }
            int way = far(room, next, been, so + door[2]);
            if (way >= 0 && (least < 0 || way < least)) {
                least = way;
            }
        }
        been[at] = false;
        return least;
    }

    int length(int i) {
        return Math.max(1, 2 * far(things.get(i)[3]) + things.get(i)[4]);
    }

    boolean mayBegin(int i, int t) {
        int room = things.get(i)[3];
        boolean safe = danger[room] == -1 || t + far(room) < danger[room];
        return safe && t + length(i) <= end;
    }

    int due(int i) {
        int t = 300;
        while (!mayBegin(i, t)) {
            t--;
        }
        return t + length(i);
    }

    /** What a PLAN's making asks of each THING, so that it is reckoned once. */
    private final int[] dues = new int[16];
    private final boolean[] ways = new boolean[16];
    private final int[] lengths = new int[16];

    private void reckon() {
        for (int i = 0; i < things.size(); i++) {
            ways[i] = far(things.get(i)[3]) >= 0;
            if (ways[i]) {
                lengths[i] = length(i);
                dues[i] = due(i);
            }
        }
    }

    private int free(int k) {
        return Math.max(now, free[k]);
    }

    private List<Integer> inOrder(List<Integer> set) {
        List<Integer> sorted = new ArrayList<>(set);
        sorted.sort((a, b) -> dues[a] != dues[b] ? Integer.compare(dues[a], dues[b]) : Integer.compare(a, b));
        return sorted;
    }

    private boolean does(int k, List<Integer> set) {
        for (int i : set) {
            if (!ways[i] || things.get(i)[2] > hands.get(k)) {
                return false;
            }
        }
        int t = free(k);
        for (int i : inOrder(set)) {
            if (t + lengths[i] > dues[i]) {
                return false;
            }
            t += lengths[i];
        }
        return true;
    }

    private List<Integer> inRooms() {
        List<Integer> list = new ArrayList<>();
        for (int i = 0; i < things.size(); i++) {
            if (where[i] < 200) {
                list.add(i);
            }
        }
        return list;
    }

    private List<List<Integer>> bestSets;
    private int bestWorth;

    private void search(List<Integer> left, int at, List<List<Integer>> sets, int worth) {
        if (at == left.size()) {
            for (int k = 0; k < hands.size(); k++) {
                if (!does(k, sets.get(k))) {
                    return;
                }
            }
            if (bestSets == null || worth > bestWorth) {
                bestWorth = worth;
                bestSets = new ArrayList<>();
                for (List<Integer> set : sets) {
                    bestSets.add(new ArrayList<>(set));
                }
            }
            return;
        }
        int i = left.get(at);
        for (int k = 0; k < hands.size(); k++) {
            sets.get(k).add(i);
            search(left, at + 1, sets, worth + things.get(i)[1]);
            sets.get(k).remove(sets.get(k).size() - 1);
        }
        search(left, at + 1, sets, worth);
    }

    private List<List<Integer>> noSets() {
        List<List<Integer>> sets = new ArrayList<>();
        for (int k = 0; k < hands.size(); k++) {
            sets.add(new ArrayList<>());
        }
        return sets;
    }

    List<List<Integer>> byBest() {
        reckon();
        bestSets = null;
        search(inRooms(), 0, noSets(), 0);
        return bestSets;
    }

    List<List<Integer>> byRule() {
        reckon();
        List<List<Integer>> sets = noSets();
        List<Integer> left = inRooms();
        left.removeIf(i -> !ways[i]);
        left.sort((a, b) -> {
            int x = things.get(a)[1] * 1000 / lengths[a];
            int y = things.get(b)[1] * 1000 / lengths[b];
            return x != y ? Integer.compare(y, x) : Integer.compare(a, b);
        });
        for (int i : left) {
            int team = -1;
            int earliest = 0;
            for (int k = 0; k < hands.size(); k++) {
                List<Integer> with = new ArrayList<>(sets.get(k));
                with.add(i);
                int ends = free(k);
                for (int j : with) {
                    ends += lengths[j];
                }
                if (does(k, with) && (team < 0 || ends < earliest)) {
                    team = k;
                    earliest = ends;
                }
            }
            if (team >= 0) {
                sets.get(team).add(i);
            }
        }
        return sets;
    }

    int worth(List<List<Integer>> sets) {
        int sum = 0;
        for (List<Integer> set : sets) {
            for (int i : set) {
                sum += things.get(i)[1];
            }
        }
        return sum;
    }

    int makePlan() {
        List<List<Integer>> sets = best ? byBest() : byRule();
        rows.clear();
        for (List<Integer> set : sets) {
            rows.add(inOrder(set));
        }
        return worth(sets);
    }

    int howManyInRooms() {
        return inRooms().size();
    }

    int given(int i) {
        for (int k = 0; k < hands.size(); k++) {
            if (holding[k] == i || rows.get(k).contains(i)) {
                return k;
            }
        }
        return -1;
    }

    int begins(int i) {
        for (int k = 0; k < hands.size(); k++) {
            int t = free(k);
            for (int j : rows.get(k)) {
                if (i == j) {
                    return t;
                }
                t += length(j);
            }
        }
        return -1;
    }

    void late(int k, int minutes) {
        free[k] = free(k) + minutes;
    }

    private void go(int i, int to) {
        seals.get(i).add(now + " " + where[i] + " " + to);
        where[i] = to;
    }

    void minute() {
        for (int k = 0; k < hands.size(); k++) {
            if (holding[k] < 0 && free(k) == now && !rows.get(k).isEmpty()) {
                int i = rows.get(k).remove(0);
                holding[k] = i;
                free[k] = now + length(i);
                go(i, 200 + k);
            }
        }
        now++;
        for (int k = 0; k < hands.size(); k++) {
            if (holding[k] >= 0 && free[k] == now) {
                go(holding[k], 300);
                holding[k] = -1;
            }
        }
        if (now == end) {
            for (int i : inRooms()) {
                go(i, 500);
            }
        }
    }
}
