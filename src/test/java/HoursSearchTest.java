/** Promises 15 to 23 against HoursModel, on many museums: THE PLANS, and what is lived by them. */
public final class HoursSearchTest {
    public static void main(String[] args) {
        for (int seed = 0; seed < 2500; seed++) {
            new HoursSearchTest(seed).run();
        }
        System.out.println(gaps + " gaps above 0, " + begun + " things begun");
        Check.holds("there were gaps", gaps > 100);
        Check.end();
    }

    private static int gaps = 0;
    private static int begun = 0;

    private final Dice dice;
    private final int seed;
    private final MuseumFlight x = new MuseumFlight();
    private final HoursModel m = new HoursModel();

    private HoursSearchTest(int seed) {
        this.seed = seed;
        dice = new Dice(seed);
    }

    private void due(String call, long got, long want) {
        Check.due("seed " + seed + ", minute " + m.now + ": " + call, got, want);
    }

    private void run() {
        build();
        look();
        lookAtGap();
        look();
        while (m.now < m.end) {
            step();
            look();
        }
        due("THE YEARS", x.status(10), 2);
        for (int i = 0; i < m.things.size(); i++) {
            due("seals", x.about(i, 6), m.seals.get(i).size());
            for (int s = 0; s < m.seals.get(i).size(); s++) {
                String got = x.seal(i, s, 0) + " " + x.seal(i, s, 1) + " " + x.seal(i, s, 2);
                Check.holds("seed " + seed + ", seal " + got + " is " + m.seals.get(i).get(s), got.equals(m.seals.get(i).get(s)));
            }
        }
    }

    private void build() {
        int rooms = dice.from(2, 6);
        int doors = dice.from(rooms, 9);
        for (int d = 0; d < doors; d++) {
            int a = d < rooms - 1 && !dice.once(9) ? d : dice.next(rooms);
            int b = (a + dice.from(1, rooms - 1)) % rooms;
            b = d < rooms - 1 ? d + 1 : b;
            if (a == b) {
                continue;
            }
            int minutes = dice.from(1, dice.once(3) ? 9 : 3);
            x.door(a, b, minutes);
            m.doors.add(new int[] {a, b, minutes});
        }
        for (int k = dice.from(1, 3); k > 0; k--) {
            int hands = dice.from(1, 4);
            x.team(hands);
            m.hands.add(hands);
        }
        int many = dice.once(8) ? dice.from(9, 16) : dice.once(40) ? 8 : dice.from(1, 7);
        for (int i = 0; i < many; i++) {
            int[] t = {dice.next(4), dice.from(1, dice.once(2) ? 100 : 4), dice.from(1, dice.from(1, 4)), dice.from(1, rooms - 1), dice.from(0, dice.once(2) ? 20 : 2)};
            x.thing(t[0], t[1], t[2], t[3], t[4]);
            m.addThing(t);
        }
        for (int r = 1; r < rooms; r++) {
            if (dice.once(2)) {
                m.danger[r] = dice.from(0, 40);
                x.danger(r, m.danger[r]);
            }
        }
        m.end = dice.from(1, 60);
        due("alarm", x.alarm(m.end), m.makePlan());
    }

    private void look() {
        for (int i = 0; i < m.things.size(); i++) {
            due("where " + i, x.about(i, 0), m.where[i]);
            due("given " + i, x.given(i), m.given(i));
            due("begins " + i, x.begins(i), m.begins(i));
            begun += m.where[i] >= 200 && m.where[i] < 300 ? 1 : 0;
        }
        due("NOW", x.status(18), m.now);
    }

    private void step() {
        switch (dice.next(8)) {
            case 0: tellDanger(); break;
            case 1: blockDoor(); break;
            case 2: beLate(); break;
            case 3: makePlan(); break;
            case 4: lookAtGap(); break;
            default: live(); break;
        }
    }

    private void tellDanger() {
        int r = dice.from(1, 5);
        int minute = dice.once(4) ? -1 : Math.min(240, m.now + dice.next(40));
        due("danger", x.danger(r, minute), m.danger[r]);
        m.danger[r] = minute;
        m.makePlan();
    }

    private void blockDoor() {
        int d = dice.next(m.doors.size() + 6);
        if (d >= m.doors.size() || m.blocked[d]) {
            return;
        }
        m.blocked[d] = true;
        due("block", x.block(d), m.makePlan());
    }

    private void beLate() {
        int k = dice.next(m.hands.size());
        int minutes = dice.from(1, 9);
        if (m.holding[k] >= 0) {
            due("late", x.late(k, minutes), -6);
            return;
        }
        m.late(k, minutes);
        due("late", x.late(k, minutes), m.makePlan());
    }

    private void makePlan() {
        boolean best = dice.once(2);
        if (best && m.howManyInRooms() > 8) {
            due("plan", x.plan(true), -7);
            return;
        }
        m.best = best;
        due("plan " + best, x.plan(best), m.makePlan());
    }

    private void lookAtGap() {
        if (m.howManyInRooms() > 8) {
            due("gap", x.gap(), -7);
            return;
        }
        int gap = m.worth(m.byBest()) - m.worth(m.byRule());
        gaps += gap > 0 ? 1 : 0;
        due("gap", x.gap(), gap);
    }

    private void live() {
        int n = dice.from(1, 9);
        for (int i = 0; i < n && m.now < m.end; i++) {
            m.minute();
        }
        due("minutes", x.minutes(n), m.now);
    }
}
