/** Promises 15 to 20, 22 and 23: THE HOURS. */
public final class HoursTest {
    public static void main(String[] args) {
        alarms();
        rule();
        ruleTies();
        bestTies();
        theLast();
        due();
        plans();
        blocks();
        lates();
        minutes();
        gaps();
        Check.end();
    }

    /** Promise 15. */
    private static void alarms() {
        MuseumFlight x = new MuseumFlight();
        Check.due("alarm 0", x.alarm(0), -6);
        Check.due("alarm -1", x.alarm(-1), -6);
        Check.due("alarm 241", x.alarm(241), -6);
        Check.due("ahead of it", x.status(10), 0);
        Check.due("alarm 240", x.alarm(240), 0);
        Check.due("in the HOURS", x.status(10), 1);
        Check.due("a second alarm", x.alarm(240), -6);
        Check.due("NOW", x.status(18), 0);
        Check.due("all its minutes", x.minutes(240), 240);
        Check.due("in the YEARS", x.status(10), 2);
        Check.due("an alarm in the YEARS", x.alarm(5), -6);
        Check.due("refused", x.status(16), 5);
    }

    /** One ROOM a minute away, one TEAM: a small THING first by RULE, though the large one is of more WORTH. */
    private static MuseumFlight smallAndLarge() {
        MuseumFlight x = new MuseumFlight();
        x.door(0, 1, 1);
        x.team(2);
        x.thing(0, 10, 1, 1, 0);
        x.thing(0, 60, 2, 1, 18);
        return x;
    }

    /** Promises 15 and 16. */
    private static void rule() {
        MuseumFlight x = smallAndLarge();
        Check.due("given ahead of the ALARM", x.given(0), -1);
        Check.due("begins ahead of the ALARM", x.begins(0), -1);
        Check.due("alarm: by RULE", x.alarm(20), 10);
        Check.due("given the small one", x.given(0), 0);
        Check.due("not the large one", x.given(1), -1);
        Check.due("gap", x.gap(), 50);
        Check.due("gap changes nothing", x.given(0), 0);
        Check.due("gap changes nothing", x.begins(0), 0);
        Check.due("best", x.plan(true), 60);
        Check.due("given the large one", x.given(1), 0);
        Check.due("not the small one", x.given(0), -1);
        Check.due("gap while by BEST", x.gap(), 50);
        Check.due("gap changes nothing", x.begins(1), 0);
        Check.due("gap changes nothing", x.given(0), -1);
        Check.due("by RULE again", x.plan(false), 10);
        x = smallAndLarge();
        Check.due("both fit", x.alarm(22), 70);
        Check.due("begins the lesser number first", x.begins(0), 0);
        Check.due("begins the other behind it", x.begins(1), 2);
        x = smallAndLarge();
        x.thing(3, 100, 3, 1, 0);
        Check.due("too few HANDS", x.alarm(22), 70);
        Check.due("no TEAM", x.given(2), -1);
        x = smallAndLarge();
        x.thing(3, 100, 1, 2, 0);
        Check.due("no way", x.alarm(240), 70);
        Check.due("no TEAM", x.given(2), -1);
        Check.due("no TEAM by BEST", x.plan(true), 70);
        Check.due("no TEAM by BEST", x.given(2), -1);
        x = new MuseumFlight();
        x.thing(0, 1, 1, 1, 0);
        x.door(0, 1, 1);
        Check.due("no TEAMS", x.alarm(9), 0);
        Check.due("no TEAMS", x.plan(true), 0);
    }

    /** RULE: rates are cut, of like ones the lesser number; of like ends the lesser TEAM. */
    private static void ruleTies() {
        MuseumFlight x = new MuseumFlight();
        x.door(0, 1, 1);
        x.team(2);
        x.team(2);
        x.thing(0, 1, 1, 1, 20);
        x.thing(0, 1, 1, 1, 20);
        x.thing(0, 1, 1, 1, 0);
        x.thing(0, 30, 1, 1, 0);
        Check.due("alarm", x.alarm(24), 33);
        Check.due("the greatest rate first, to TEAM 0", x.given(3), 0);
        Check.due("the second to TEAM 1", x.given(2), 1);
        Check.due("the third to TEAM 0, as both are free in minute 2", x.given(0), 0);
        Check.due("the fourth to TEAM 1", x.given(1), 1);
        x = new MuseumFlight();
        x.door(0, 1, 9);
        x.door(0, 2, 9);
        x.team(1);
        x.thing(0, 1, 1, 1, 14);
        x.thing(0, 1, 1, 1, 13);
        x.thing(0, 2, 1, 1, 20);
        Check.due("alarm for one only", x.alarm(38), 2);
        Check.due("the greatest rate", x.given(2), 0);
        x = new MuseumFlight();
        x.door(0, 1, 9);
        x.team(1);
        x.thing(0, 50, 1, 1, 1);
        x.thing(0, 100, 1, 1, 20);
        Check.due("rates 2631 and 2631, cut: the lesser number", x.alarm(38), 50);
        Check.due("gap of them", x.gap(), 50);
        Check.due("3 by 40 and 4 by 53 are 75", twoRates(3, 10, 20, 4, 18, 17), 3);
        Check.due("3 by 44 and 2 by 29 are 68", twoRates(3, 12, 20, 2, 10, 9), 3);
        Check.due("2 by 29 and 3 by 44 are 68", twoRates(2, 10, 9, 3, 12, 20), 2);
    }

    /** WORTH by RULE of two THINGS, of which one alone can be out. */
    private static int twoRates(int worth, int far, int pack, int otherWorth, int otherFar, int otherPack) {
        MuseumFlight x = new MuseumFlight();
        x.team(1);
        x.door(0, 1, 9);
        x.door(1, 10, far - 9);
        x.door(0, 2, 9);
        x.door(2, 11, otherFar - 9);
        x.thing(0, worth, 1, 10, pack);
        x.thing(0, otherWorth, 1, 11, otherPack);
        return x.alarm(Math.max(2 * far + pack, 2 * otherFar + otherPack));
    }

    /** The last DOOR, ROOM, THING, and TEAM there can be. */
    private static void theLast() {
        MuseumFlight x = new MuseumFlight();
        for (int d = 0; d < 19; d++) {
            x.door(1, 2 + d % 9, 1);
        }
        x.door(0, 11, 1);
        for (int k = 0; k < 3; k++) {
            x.team(k == 2 ? 4 : 1);
        }
        for (int i = 0; i < 16; i++) {
            x.thing(3, 10 + i, 4, i < 9 ? 1 : 11, 0);
        }
        Check.due("alarm", x.alarm(4), 25 + 24);
        Check.due("the last THING", x.given(15), 2);
        Check.due("it is begun behind 14", x.begins(15), 2);
        x.minutes(3);
        Check.due("seal", x.seal(15, 0, 2), 202);
        x = new MuseumFlight();
        for (int d = 0; d < 19; d++) {
            x.door(1, 2 + d % 9, 1);
        }
        x.door(0, 11, 1);
        x.team(1);
        x.team(1);
        x.team(4);
        for (int i = 0; i < 16; i++) {
            x.thing(3, 10 + i, 4, 11, 0);
        }
        x.alarm(30);
        x.minutes(16);
        Check.due("best of THING 0 and the last seven", x.plan(true), 19 + 20 + 21 + 22 + 23 + 24 + 25);
        Check.due("the least has no TEAM", x.given(0), -1);
        Check.due("the last THING by BEST", x.given(15), 2);
        Check.due("the last THING by BEST is begun", x.begins(15), 28);
        Check.due("the last DOOR is blocked", x.block(19), 0);
        Check.due("the last DOOR is blocked already", x.block(19), -6);
        Check.due("no way", x.far(11), -1);
    }

    /** BEST: of several, THING 0 has the lesser TEAM, then THING 1, and one without a TEAM comes behind. */
    private static void bestTies() {
        MuseumFlight x = new MuseumFlight();
        x.door(0, 1, 1);
        x.team(1);
        x.team(1);
        x.team(1);
        for (int i = 0; i < 8; i++) {
            x.thing(0, 5, 1, 1, 0);
        }
        Check.due("alarm", x.alarm(4), 30);
        Check.due("best", x.plan(true), 30);
        int[] wants = {0, 0, 1, 1, 2, 2, -1, -1};
        for (int i = 0; i < 8; i++) {
            Check.due("given " + i, x.given(i), wants[i]);
        }
        x = new MuseumFlight();
        x.door(0, 1, 1);
        x.team(1);
        x.team(2);
        x.thing(0, 5, 2, 1, 0);
        x.thing(0, 5, 1, 1, 0);
        x.thing(0, 5, 1, 1, 0);
        x.alarm(2);
        Check.due("best", x.plan(true), 10);
        Check.due("needs the stronger TEAM", x.given(0), 1);
        Check.due("has the weaker one", x.given(1), 0);
        Check.due("has none", x.given(2), -1);
    }

    /** DUE is the latest minute of the begin, and LENGTH. */
    private static void due() {
        MuseumFlight x = new MuseumFlight();
        x.door(0, 1, 1);
        x.door(0, 2, 1);
        x.team(1);
        x.thing(0, 5, 1, 1, 8);
        x.thing(0, 5, 1, 2, 0);
        x.danger(1, 7);
        x.danger(2, 10);
        Check.due("both do in the order of DUE", x.alarm(100), 10);
        Check.due("DUE 10 comes first", x.begins(1), 0);
        Check.due("DUE 15 comes behind", x.begins(0), 2);
        Check.due("the same by BEST", x.plan(true), 10);
        Check.due("DUE 10 comes first", x.begins(1), 0);
        Check.due("DUE 15 comes behind", x.begins(0), 2);
        x = new MuseumFlight();
        x.door(0, 1, 3);
        x.team(1);
        x.thing(0, 5, 1, 1, 0);
        x.danger(1, 3);
        Check.due("t and FAR must be below DANGER", x.alarm(100), 0);
        x.danger(1, 4);
        Check.due("now it may be begun at once", x.begins(0), 0);
        x = new MuseumFlight();
        x.door(0, 1, 3);
        x.team(1);
        x.thing(0, 5, 1, 1, 2);
        Check.due("LENGTH above END", x.alarm(7), 0);
        x = new MuseumFlight();
        x.door(0, 1, 3);
        x.team(1);
        x.thing(0, 5, 1, 1, 2);
        Check.due("LENGTH is END", x.alarm(8), 5);
        x.minutes(7);
        Check.due("still IN HAND", x.about(0, 0), 200);
        x.minutes(1);
        Check.due("out as the HOURS end", x.about(0, 0), 300);
    }

    /** Promise 16. */
    private static void plans() {
        MuseumFlight x = new MuseumFlight();
        Check.due("plan ahead of the ALARM", x.plan(false), -6);
        Check.due("gap ahead of the ALARM", x.gap(), -6);
        x.door(0, 1, 1);
        x.team(1);
        x.thing(0, 10, 1, 1, 0);
        for (int i = 0; i < 8; i++) {
            x.thing(0, 60, 1, i == 0 ? 1 : 9, 18);
        }
        Check.due("by RULE", x.alarm(20), 10);
        Check.due("best of nine", x.plan(true), -7);
        Check.due("gap of nine", x.gap(), -7);
        Check.due("by RULE of nine", x.plan(false), 10);
        x.minutes(1);
        Check.due("best of eight in ROOMS", x.plan(true), 0);
        Check.due("gap of eight in ROOMS", x.gap(), 0);
        x.minutes(19);
        Check.due("plan in the YEARS", x.plan(false), -6);
        Check.due("best in the YEARS", x.plan(true), -6);
        Check.due("gap in the YEARS", x.gap(), -6);
        Check.due("refused wrong", x.status(16), 5);
        Check.due("refused room", x.status(17), 2);
        x = smallAndLarge();
        x.alarm(40);
        x.plan(true);
        x.late(0, 20);
        Check.due("by BEST from then on", x.given(1), 0);
        Check.due("by BEST from then on", x.given(0), -1);
        x = smallAndLarge();
        x.alarm(40);
        x.plan(true);
        x.plan(false);
        x.late(0, 20);
        Check.due("by RULE from then on", x.given(0), 0);
    }

    /** Promise 18. */
    private static void blocks() {
        MuseumFlight x = smallAndLarge();
        x.door(0, 2, 2);
        x.door(2, 1, 2);
        x.door(3, 4, 2);
        Check.due("block -1", x.block(-1), -1);
        Check.due("block 4", x.block(4), -1);
        Check.due("block ahead of the ALARM", x.block(3), 0);
        Check.due("blocked already", x.block(3), -6);
        Check.due("no way there", x.far(4), -1);
        Check.due("alarm", x.alarm(30), 70);
        Check.due("block: LENGTHS are 8 and 26 now, and the large one's rate is greater", x.block(0), 60);
        Check.due("the large one", x.begins(1), 0);
        Check.due("not the small one", x.begins(0), -1);
        Check.due("a new DANGER", x.danger(1, 20), -1);
        Check.due("the large one still", x.begins(1), 0);
        x.late(0, 5);
        Check.due("the small one only", x.begins(0), 5);
        Check.due("the small one only", x.begins(1), -1);
        x.minutes(6);
        Check.due("block: no way any more", x.block(1), 0);
        Check.due("what is IN HAND stays so", x.given(0), 0);
        Check.due("begins: no JOB left", x.begins(1), -1);
        x.minutes(6);
        Check.due("what is IN HAND", x.about(0, 0), 200);
        x.minutes(1);
        Check.due("comes out as told", x.about(0, 0), 300);
        Check.due("blocked already", x.block(1), -6);
        x.minutes(100);
        Check.due("block in the YEARS", x.block(2), -6);
        Check.due("block nobody in the YEARS", x.block(9), -1);
        Check.due("refused wrong", x.status(16), 3);
        Check.due("refused nobody", x.status(11), 3);
    }

    /** Promise 19. */
    private static void lates() {
        MuseumFlight x = smallAndLarge();
        Check.due("late ahead of the ALARM", x.late(0, 1), -6);
        Check.due("late -1", x.late(-1, 1), -1);
        Check.due("late 1", x.late(1, 1), -1);
        Check.due("alarm", x.alarm(100), 70);
        Check.due("late 0 minutes", x.late(0, 0), -6);
        Check.due("late 61 minutes", x.late(0, 61), -6);
        Check.due("late nobody first", x.late(3, 0), -1);
        Check.due("late 60", x.late(0, 60), 70);
        Check.due("begins", x.begins(0), 60);
        Check.due("begins", x.begins(1), 62);
        x.minutes(10);
        Check.due("waits", x.about(0, 0), 101);
        Check.due("late once more, of FREE", x.late(0, 20), 60 + 10 - 60);
        Check.due("begins", x.begins(0), 80);
        Check.due("does not fit", x.begins(1), -1);
        x.minutes(70);
        Check.due("waits still", x.about(0, 0), 101);
        x.minutes(1);
        Check.due("begun", x.about(0, 0), 200);
        Check.due("late while IN HAND", x.late(0, 1), -6);
        x.minutes(1);
        Check.due("out", x.about(0, 0), 300);
        Check.due("seal of the begin", x.seal(0, 0, 0), 80);
        Check.due("seal of the end", x.seal(0, 1, 0), 82);
        Check.due("late again", x.late(0, 1), 0);
        x.minutes(30);
        Check.due("late in the YEARS", x.late(0, 1), -6);
        x = smallAndLarge();
        x.alarm(100);
        x.minutes(30);
        x.danger(1, 30);
        x = smallAndLarge();
        x.door(0, 2, 1);
        x.thing(0, 9, 1, 2, 0);
        x.block(1);
        x.alarm(100);
        x.minutes(40);
        Check.due("idle: late from NOW on", x.late(0, 5), 0);
        x = new MuseumFlight();
        x.door(0, 1, 1);
        x.team(1);
        x.thing(0, 9, 1, 1, 0);
        x.danger(1, 0);
        x.alarm(100);
        x.minutes(40);
        x.danger(1, 90);
        Check.due("idle: begins NOW", x.begins(0), 40);
        Check.due("idle: late from NOW on", x.late(0, 5), 9);
        Check.due("idle: begins", x.begins(0), 45);
    }

    /** Promises 20, 22 and 23. */
    private static void minutes() {
        MuseumFlight x = smallAndLarge();
        x.thing(0, 1, 1, 5, 0);
        Check.due("minutes ahead of the ALARM", x.minutes(1), -6);
        x.alarm(30);
        Check.due("minutes 0", x.minutes(0), -6);
        Check.due("minutes -1", x.minutes(-1), -6);
        Check.due("minutes 241", x.minutes(241), -6);
        Check.due("NOW", x.minutes(1), 1);
        Check.due("IN HAND", x.about(0, 0), 200);
        Check.due("given: IN HAND", x.given(0), 0);
        Check.due("begins: IN HAND", x.begins(0), -1);
        Check.due("begins: the next", x.begins(1), 2);
        Check.due("how many IN HAND", x.status(5), 1);
        Check.due("how many in ROOMS", x.status(4), 2);
        Check.due("NOW", x.minutes(1), 2);
        Check.due("in the YARD", x.about(0, 0), 300);
        Check.due("given: in the YARD", x.given(0), -1);
        Check.due("the next isn't begun", x.about(1, 0), 101);
        Check.due("NOW", x.minutes(1), 3);
        Check.due("the next is begun", x.about(1, 0), 200);
        Check.due("END", x.minutes(240), 30);
        Check.due("NOW stays END", x.status(18), 30);
        Check.due("THE YEARS", x.status(10), 2);
        Check.due("LOST", x.about(2, 0), 500);
        Check.due("seal of LOST: TIME", x.seal(2, 0, 0), 30);
        Check.due("seal of LOST: from", x.seal(2, 0, 1), 105);
        Check.due("seal of LOST: to", x.seal(2, 0, 2), 500);
        Check.due("seal: begun", x.seal(1, 0, 0), 2);
        Check.due("seal: from", x.seal(1, 0, 1), 101);
        Check.due("seal: to", x.seal(1, 0, 2), 200);
        Check.due("seal: out", x.seal(1, 1, 0), 22);
        Check.due("seal: from", x.seal(1, 1, 1), 200);
        Check.due("seal: to", x.seal(1, 1, 2), 300);
        Check.due("in the YARD", x.status(6), 2);
        Check.due("LOST", x.status(8), 1);
        Check.due("given in the YEARS", x.given(2), -1);
        Check.due("begins in the YEARS", x.begins(2), -1);
        Check.due("minutes in the YEARS", x.minutes(1), -6);
        for (int i = -1; i < 5; i += 4) {
            Check.due("given: no such THING", x.given(i), -1);
            Check.due("begins: no such THING", x.begins(i), -1);
        }
        Check.due("refused nobody", x.status(11), 0);
        Check.due("refused wrong", x.status(16), 5);
    }

    /** Promise 17: gap() leaves THE PLAN and how it is made. */
    private static void gaps() {
        MuseumFlight x = smallAndLarge();
        x.alarm(40);
        Check.due("no gap", x.gap(), 0);
        x.late(0, 20);
        Check.due("gap", x.gap(), 50);
        Check.due("by RULE still", x.given(0), 0);
        x.danger(2, 50);
        Check.due("by RULE still", x.given(0), 0);
        x.minutes(22);
        Check.due("it is lived so", x.about(0, 0), 300);
    }
}
