import java.util.function.ToLongFunction;

/** Promises 15 to 20, 22 and 23 and "THE HOURS", sentence by sentence: the edges that are named, on both sides. */
public final class HoursEdgesTest {
    private static final int MIN = Museums.MIN;
    private static final int MAX = Museums.MAX;

    public static void main(String[] args) {
        alarmEnds();
        alarmOnce();
        alarmOfTheFull();
        lengthAndEnd();
        farAndDanger();
        handsEnough();
        orderOfDue();
        ratesAreCut();
        ruleEndsEarliest();
        bestOrder();
        planRefusals();
        planEight();
        planOfNone();
        planFromNowOn();
        gapRefusals();
        gapChangesNothing();
        blockRefusals();
        blockAnswers();
        lateRefusals();
        lateFree();
        lateIsCounted();
        minutesRefusals();
        minutesToEnd();
        minuteByMinute();
        atOnceNextJob();
        inHandComesOut();
        planIsMadeAnew();
        givenNobody();
        beginsWhen();
        lostAtEnd();
        Check.end();
    }

    private static void refused(String what, MuseumFlight x, int due, ToLongFunction<MuseumFlight> call) {
        Museums.refused(what, x, due, call);
    }

    private static void taken(String what, MuseumFlight x, long due, ToLongFunction<MuseumFlight> call) {
        Museums.taken(what, x, due, call);
    }

    private static void seen(String what, MuseumFlight x, long due, ToLongFunction<MuseumFlight> call) {
        Museums.seen(what, x, due, call);
    }

    /** One DOOR of one minute to ROOM 1, as many TEAMS of 4 HANDS, and THINGS of one HAND there by WORTH and PACK. */
    private static MuseumFlight house(int teams, int... worthAndPack) {
        MuseumFlight x = new MuseumFlight();
        x.door(0, 1, 1);
        for (int k = 0; k < teams; k++) {
            x.team(4);
        }
        for (int i = 0; i < worthAndPack.length; i += 2) {
            x.thing(0, worthAndPack[i], 1, 1, worthAndPack[i + 1]);
        }
        return x;
    }

    // ---- promise 15: "-6 END, there was one"; "an END 1 to 240" ----

    private static void alarmEnds() {
        for (int wrong : new int[] {0, 241, -1, MIN, MAX}) {
            refused("15: -6 END " + wrong, Museums.ahead(), -6, y -> y.alarm(wrong));
            refused("15: -6 END in the HOURS " + wrong, Museums.inTheHours(), -6, y -> y.alarm(wrong));
        }
        MuseumFlight x = house(1, 5, 0);
        taken("15: END 1, too early for LENGTH 2", x, 0, y -> y.alarm(1));
        Check.due("15: at minute 0", x.status(18), 0);
        taken("15: one minute", x, 1, y -> y.minutes(1));
        Check.due("15: THE YEARS", x.status(10), 2);
        x = house(1, 5, 0);
        taken("15: END 240", x, 5, y -> y.alarm(240));
        taken("15: one less", x, 239, y -> y.minutes(239));
        Check.due("15: THE HOURS still", x.status(10), 1);
        taken("15: the last minute", x, 240, y -> y.minutes(1));
        Check.due("15: THE YEARS", x.status(10), 2);
    }

    private static void alarmOnce() {
        refused("15: -6 there was one, in the HOURS", Museums.inTheHours(), -6, y -> y.alarm(60));
        refused("15: -6 there was one, in the YEARS", Museums.inTheYears(), -6, y -> y.alarm(60));
        MuseumFlight x = Museums.ahead();
        x.alarm(0);
        taken("15: a refused ALARM was none", x, 30, y -> y.alarm(60));
        x = Museums.inTheHours();
        x.alarm(240);
        Check.due("15: END stays", x.minutes(240), 60);
        taken("15: nothing to carry, nobody to carry", new MuseumFlight(), 0, y -> y.alarm(5));
        taken("15: nobody to carry", house(0, 5, 0), 0, y -> y.alarm(5));
        taken("15: nothing to carry", house(3), 0, y -> y.alarm(5));
    }

    /** 20 DOORS, 3 TEAMS, 16 THINGS of WORTH 100. */
    private static void alarmOfTheFull() {
        MuseumFlight x = new MuseumFlight();
        for (int d = 0; d < 20; d++) {
            x.door(d % 11, 11, 9);
        }
        for (int k = 0; k < 3; k++) {
            x.team(4);
        }
        for (int i = 0; i < 16; i++) {
            x.thing(i % 4, 100, 4, 11, 20);
        }
        taken("15: three TEAMS, six each of LENGTH 38", x, 1600, y -> y.alarm(228));
        for (int i = 0; i < 16; i++) {
            Check.due("15: given in turn " + i, x.given(i), i % 3);
            Check.due("15: begins in turn " + i, x.begins(i), i / 3 * 38);
        }
        x.minutes(240);
        Check.due("15: all are in the YARD", x.status(6), 16);
    }

    // ---- "t and LENGTH is no more than END"; LENGTH is two times FAR, plus PACK ----

    private static void lengthAndEnd() {
        for (int far = 1; far <= 9; far++) {
            for (int pack = 0; pack <= 20; pack += 4) {
                int length = 2 * far + pack;
                for (int spare = -1; spare <= 1; spare++) {
                    MuseumFlight x = new MuseumFlight();
                    x.door(0, 1, far);
                    x.team(1);
                    x.thing(0, 9, 1, 1, pack);
                    Check.due("LENGTH " + length + ", END " + (length + spare), x.alarm(length + spare), spare < 0 ? 0 : 9);
                    Check.due("by BEST", x.plan(true), spare < 0 ? 0 : 9);
                    x.minutes(length + spare);
                    Check.due("where it is at END", x.about(0, 0), spare < 0 ? 500 : 300);
                    Check.due("the SEAL's TIME", x.seal(0, spare < 0 ? 0 : 1, 0), spare < 0 ? length - 1 : length);
                }
            }
        }
    }

    /** "t and FAR is below DANGER of the ROOM" */
    private static void farAndDanger() {
        for (int wait = 0; wait <= 3; wait++) {
            for (int danger = 0; danger <= 9; danger++) {
                MuseumFlight x = new MuseumFlight();
                x.door(0, 1, 3);
                x.team(1);
                x.thing(0, 9, 1, 1, 1);
                x.danger(1, danger);
                x.alarm(60);
                int worth = wait == 0 ? x.plan(false) : x.late(0, wait);
                boolean may = wait + 3 < danger;
                Check.due("from " + wait + " on, FAR 3, DANGER " + danger, worth, may ? 9 : 0);
                Check.due("by BEST", x.plan(true), may ? 9 : 0);
                Check.due("begins", x.begins(0), may ? wait : -1);
            }
        }
    }

    /** "for a TEAM with as many HANDS or more" */
    private static void handsEnough() {
        for (int team = 1; team <= 4; team++) {
            for (int thing = 1; thing <= 4; thing++) {
                MuseumFlight x = new MuseumFlight();
                x.door(0, 1, 1);
                x.team(team);
                x.thing(0, 9, thing, 1, 0);
                Check.due("TEAM of " + team + ", THING of " + thing, x.alarm(9), team >= thing ? 9 : 0);
                Check.due("by BEST", x.plan(true), team >= thing ? 9 : 0);
                Check.due("given", x.given(0), team >= thing ? 0 : -1);
            }
        }
    }

    /** "in the order of DUE (of like ones the lesser number first)" */
    private static void orderOfDue() {
        MuseumFlight x = house(1, 1, 5, 100, 0, 50, 9);
        Check.due("all of DUE 60", x.alarm(60), 151);
        Check.due("THING 0 first", x.begins(0), 0);
        Check.due("then THING 1", x.begins(1), 7);
        Check.due("then THING 2", x.begins(2), 9);
        Check.due("the same by BEST", x.plan(true), 151);
        Check.due("THING 2", x.begins(2), 9);
        x.minutes(60);
        int[] begun = {0, 7, 9};
        for (int i = 0; i < 3; i++) {
            Check.due("begun in that order", x.seal(i, 0, 0), begun[i]);
        }
        x = new MuseumFlight();
        x.door(0, 1, 1);
        x.door(0, 2, 1);
        x.team(1);
        x.thing(0, 5, 1, 1, 0);
        x.thing(0, 5, 1, 2, 4);
        x.danger(1, 20);
        x.danger(2, 15);
        Check.due("DUES: 18 and 2, 13 and 6", x.alarm(60), 10);
        Check.due("DUE 19 first", x.begins(1), 0);
        Check.due("DUE 20 then", x.begins(0), 6);
        x.danger(2, 16);
        Check.due("DUES of 20 both: THING 0 first", x.begins(0), 0);
        Check.due("then THING 1", x.begins(1), 2);
        x.danger(2, 17);
        Check.due("DUES of 20 and 21", x.begins(0), 0);
    }

    /** "by WORTH times 1,000 by LENGTH, cut, the greatest first (of like ones the lesser number)" */
    private static void ratesAreCut() {
        MuseumFlight x = house(1, 5, 5, 6, 6);
        Check.due("5,000 by 7 is 714, 6,000 by 8 is 750", x.alarm(8), 6);
        x = house(1, 7, 5, 8, 6);
        Check.due("both are 1,000: the lesser number", x.alarm(8), 7);
        x = house(1, 8, 6, 7, 5);
        Check.due("both are 1,000: the lesser number", x.alarm(8), 8);
        x = house(1, 3, 11, 2, 7);
        Check.due("3,000 by 13 is 230.7, 2,000 by 9 is 222.2", x.alarm(13), 3);
        x = house(1, 1, 17, 1, 18);
        Check.due("1,000 by 19 is 52.6, 1,000 by 20 is 50", x.alarm(20), 1);
        Check.due("52 is the greater", x.given(0), 0);
        x = house(1, 1, 1, 1, 1);
        Check.due("like rates", x.alarm(3), 1);
        Check.due("the lesser number", x.given(0), 0);
        x = new MuseumFlight();
        x.door(0, 1, 9);
        x.door(1, 2, 2);
        x.team(1);
        x.thing(0, 1, 1, 2, 8);
        x.thing(0, 1, 1, 2, 9);
        x.thing(0, 1, 1, 2, 7);
        Check.due("33.3, 32.2 and 34.4 are 33, 32 and 34", x.alarm(31), 1);
        Check.due("34 is the greatest", x.given(2), 0);
    }

    /** "to the TEAM for which its set with this one DOES and ends earliest, of like ones the lesser number; or to none" */
    private static void ruleEndsEarliest() {
        MuseumFlight x = house(3, 10, 0, 10, 0, 10, 0, 10, 0);
        x.alarm(4);
        int[] teams = {0, 1, 2, 0};
        for (int i = 0; i < 4; i++) {
            Check.due("in turn, the lesser number first", x.given(i), teams[i]);
        }
        x.late(0, 1);
        int[] later = {1, 2, 0, 1};
        for (int i = 0; i < 4; i++) {
            Check.due("TEAM 0 is free a minute later", x.given(i), later[i]);
        }
        x.late(1, 2);
        x.late(2, 2);
        int[] latest = {0, 1, 2, -1};
        for (int i = 0; i < 4; i++) {
            Check.due("or to none", x.given(i), latest[i]);
        }
    }

    /** "that in which THING 0 has the lesser TEAM (one without a TEAM comes behind), then THING 1, and so on" */
    private static void bestOrder() {
        MuseumFlight x = house(3, 10, 0, 10, 0, 10, 0, 10, 0);
        x.alarm(2);
        Check.due("three of four", x.plan(true), 30);
        int[] teams = {0, 1, 2, -1};
        for (int i = 0; i < 4; i++) {
            Check.due("THING 3 comes behind", x.given(i), teams[i]);
        }
        x = house(3, 10, 0, 10, 0, 10, 0, 10, 0);
        x.alarm(8);
        x.plan(true);
        for (int i = 0; i < 4; i++) {
            Check.due("all have TEAM 0", x.given(i), 0);
        }
        x.late(0, 1);
        Check.due("then THING 3 has TEAM 1", x.given(3), 1);
        Check.due("and THING 2 TEAM 0 still", x.given(2), 0);
        x = house(2, 1, 2, 10, 0, 10, 0);
        x.alarm(4);
        Check.due("all three", x.plan(true), 21);
        Check.due("THING 0 has TEAM 0", x.given(0), 0);
        Check.due("THING 1 has TEAM 1", x.given(1), 1);
        Check.due("THING 2 has TEAM 1", x.given(2), 1);
    }

    // ---- promise 16: "-6 not in the HOURS; -7 BEST with more than 8 THINGS in ROOMS" ----

    /** Nine THINGS in ROOMS, most of them without a way. */
    private static MuseumFlight nine() {
        MuseumFlight x = new MuseumFlight();
        x.door(0, 1, 1);
        x.team(1);
        for (int i = 0; i < 9; i++) {
            x.thing(0, 10, 1, i == 0 ? 1 : 9, 0);
        }
        return x;
    }

    private static void planRefusals() {
        for (boolean best : new boolean[] {false, true}) {
            refused("16: -6 ahead of the ALARM", Museums.ahead(), -6, y -> y.plan(best));
            refused("16: -6 in the YEARS", Museums.inTheYears(), -6, y -> y.plan(best));
            refused("16: -6 ahead of -7", nine(), -6, y -> y.plan(best));
        }
        MuseumFlight x = nine();
        x.alarm(60);
        refused("16: -7 nine in ROOMS, without a way too", x, -7, y -> y.plan(true));
        taken("16: by RULE of nine", x, 10, y -> y.plan(false));
        refused("16: -7 still", x, -7, y -> y.plan(true));
        x.minutes(1);
        taken("16: eight in ROOMS, one IN HAND", x, 0, y -> y.plan(true));
    }

    private static void planEight() {
        MuseumFlight x = house(3, 10, 0, 10, 0, 10, 0, 10, 0, 10, 0, 10, 0, 10, 0, 10, 0);
        x.alarm(4);
        taken("16: BEST of eight", x, 60, y -> y.plan(true));
        x = new MuseumFlight();
        x.alarm(3);
        taken("16: BEST of none", x, 0, y -> y.plan(true));
        taken("16: RULE of none", x, 0, y -> y.plan(false));
    }

    /** 16 THINGS, of which the last seven can't be carried any more: BEST is of none, the last one's TEAM, too. */
    private static void planOfNone() {
        MuseumFlight x = house(3);
        for (int i = 0; i < 16; i++) {
            x.thing(0, 10, 1, 1, 0);
        }
        x.alarm(20);
        x.minutes(5);
        Check.due("16: seven in ROOMS", x.status(4), 7);
        x.danger(1, 5);
        taken("16: BEST of seven in DANGER", x, 0, y -> y.plan(true));
        seen("17: no gap", x, 0, MuseumFlight::gap);
        for (int i = 9; i < 16; i++) {
            Check.due("16: no TEAM", x.given(i), -1);
            Check.due("16: not begun", x.begins(i), -1);
        }
    }

    /** "and so from now on": a small THING first by RULE, a large one by BEST. */
    private static MuseumFlight smallAndLarge() {
        return house(1, 10, 0, 60, 18);
    }

    private static void planFromNowOn() {
        MuseumFlight x = smallAndLarge();
        x.alarm(40);
        x.late(0, 20);
        Check.due("16: RULE at first", x.given(0), 0);
        x = smallAndLarge();
        x.alarm(40);
        taken("16: BEST", x, 70, y -> y.plan(true));
        x.late(0, 20);
        Check.due("16: BEST from now on", x.given(1), 0);
        x.danger(5, 100);
        Check.due("16: at a new DANGER, too", x.given(1), 0);
        taken("16: RULE", x, 10, y -> y.plan(false));
        x.danger(5, 101);
        Check.due("16: RULE from now on", x.given(0), 0);
        MuseumFlight z = nine();
        z.alarm(60);
        z.plan(true);
        z.minutes(1);
        Check.due("16: a refused BEST wasn't told", z.late(0, 1), -6);
        MuseumFlight w = house(1, 10, 0, 60, 18, 1, 0, 1, 0, 1, 0, 1, 0, 1, 0, 1, 0, 1, 0);
        w.alarm(20);
        w.plan(true);
        w.danger(9, 100);
        Check.due("16: by RULE still behind a refused BEST", w.given(0), 0);
        Check.due("16: the large one isn't given", w.given(1), -1);
    }

    // ---- promise 17: "-6, -7 as plan() (nothing changes)" ----

    private static void gapRefusals() {
        refused("17: -6 ahead of the ALARM", Museums.ahead(), -6, MuseumFlight::gap);
        refused("17: -6 in the YEARS", Museums.inTheYears(), -6, MuseumFlight::gap);
        refused("17: -6 ahead of -7", nine(), -6, MuseumFlight::gap);
        MuseumFlight x = nine();
        x.alarm(60);
        refused("17: -7 nine in ROOMS", x, -7, MuseumFlight::gap);
        x.minutes(1);
        seen("17: eight in ROOMS", x, 0, MuseumFlight::gap);
        MuseumFlight none = new MuseumFlight();
        none.alarm(3);
        seen("17: none in ROOMS", none, 0, MuseumFlight::gap);
    }

    private static void gapChangesNothing() {
        for (boolean best : new boolean[] {false, true}) {
            MuseumFlight x = smallAndLarge();
            x.alarm(20);
            x.plan(best);
            seen("17: by how much", x, 50, MuseumFlight::gap);
            x.danger(9, 200);
            Check.due("17: how THE PLAN is made stays", x.given(1), best ? 0 : -1);
            x.minutes(20);
            Check.due("17: it is lived by THE PLAN", x.about(best ? 1 : 0, 0), 300);
            Check.due("17: the other is LOST", x.about(best ? 0 : 1, 0), 500);
        }
    }

    // ---- promise 18: "-1; -6 in the YEARS, BLOCKED already"; "(0 ahead of it)" ----

    private static void blockRefusals() {
        for (int none : new int[] {-1, 2, 19, 20, MIN, MAX}) {
            refused("18: -1 no DOOR " + none, Museums.ahead(), -1, y -> y.block(none));
            refused("18: -1 no DOOR in the HOURS " + none, Museums.inTheHours(), -1, y -> y.block(none));
            refused("18: -1 ahead of -6 in the YEARS " + none, Museums.inTheYears(), -1, y -> y.block(none));
        }
        refused("18: -6 in the YEARS", Museums.inTheYears(), -6, y -> y.block(0));
        MuseumFlight x = Museums.ahead();
        x.block(1);
        refused("18: -6 BLOCKED already", x, -6, y -> y.block(1));
        x.alarm(50);
        refused("18: -6 BLOCKED already, in the HOURS", x, -6, y -> y.block(1));
        x.block(0);
        refused("18: -6 BLOCKED in the HOURS already", x, -6, y -> y.block(0));
    }

    private static void blockAnswers() {
        MuseumFlight x = Museums.ahead();
        taken("18: 0 ahead of it", x, 0, y -> y.block(1));
        Check.due("18: BLOCKED ahead of it", x.far(2), -1);
        Check.due("18: the other isn't", x.far(1), 1);
        Check.due("18: WORTH without what has no way", x.alarm(60), 10);
        taken("18: WORTH of THE PLAN, all BLOCKED", x, 0, y -> y.block(0));
        Check.due("18: no way", x.given(0), -1);
        x = house(2, 10, 0, 20, 0);
        x.door(0, 1, 2);
        x.door(0, 2, 2);
        x.alarm(4);
        taken("18: another DOOR", x, 30, y -> y.block(2));
        taken("18: the longer DOOR does", x, 30, y -> y.block(0));
        Check.due("18: LENGTH 4 now", x.given(1), 0);
        Check.due("18: LENGTH 4 now", x.given(0), 1);
    }

    // ---- promise 19: "-1; -6 not 1 to 60, not in the HOURS, it has something IN HAND" ----

    private static void lateRefusals() {
        for (int none : new int[] {-1, 1, 2, 3, MIN, MAX}) {
            for (int minutes : new int[] {5, 0, 61}) {
                refused("19: -1 no TEAM " + none, Museums.ahead(), -1, y -> y.late(none, minutes));
                refused("19: -1 no TEAM in the HOURS " + none, Museums.inTheHours(), -1, y -> y.late(none, minutes));
                refused("19: -1 no TEAM in the YEARS " + none, Museums.inTheYears(), -1, y -> y.late(none, minutes));
            }
        }
        refused("19: -6 ahead of the ALARM", Museums.ahead(), -6, y -> y.late(0, 5));
        refused("19: -6 in the YEARS", Museums.inTheYears(), -6, y -> y.late(0, 5));
        refused("19: -6 IN HAND", Museums.inTheHours(), -6, y -> y.late(0, 5));
        MuseumFlight x = Museums.ahead();
        x.alarm(60);
        for (int wrong : new int[] {0, 61, -1, MIN, MAX}) {
            refused("19: -6 minutes " + wrong, x, -6, y -> y.late(0, wrong));
        }
        taken("19: 1 minute", x, 30, y -> y.late(0, 1));
        Check.due("19: a minute later", x.begins(0), 1);
        taken("19: 60 minutes", x, 0, y -> y.late(0, 60));
        Check.due("19: beyond END", x.given(0), -1);
    }

    /** "its FREE is so much later": FREE is NOW at least, and as late as it was told before. */
    private static void lateFree() {
        MuseumFlight x = house(1, 10, 0);
        x.alarm(200);
        x.late(0, 60);
        taken("19: FREE 60, and 60 more", x, 10, y -> y.late(0, 60));
        Check.due("19: FREE is 120", x.begins(0), 120);
        x.minutes(119);
        Check.due("19: not begun ahead of FREE", x.about(0, 0), 101);
        taken("19: a minute before FREE, one more", x, 10, y -> y.late(0, 1));
        Check.due("19: FREE is 121", x.begins(0), 121);
        x.minutes(2);
        Check.due("19: begun as FREE is NOW: not yet lived", x.about(0, 0), 101);
        taken("19: NOW is FREE", x, 10, y -> y.late(0, 1));
        Check.due("19: FREE is 122", x.begins(0), 122);
        x.minutes(2);
        Check.due("19: IN HAND", x.about(0, 0), 200);
        refused("19: IN HAND", x, -6, y -> y.late(0, 1));
        x.minutes(1);
        Check.due("19: out", x.seal(0, 1, 0), 124);
        taken("19: nothing IN HAND any more", x, 0, y -> y.late(0, 1));
    }

    /** A refused LATE moves nothing; one TEAM's being LATE moves that one alone. */
    private static void lateIsCounted() {
        MuseumFlight x = house(2, 10, 0, 20, 0);
        x.alarm(100);
        x.late(0, 61);
        x.late(0, 0);
        x.late(2, 9);
        x.late(-1, 9);
        Check.due("19: no TEAM is LATE", x.begins(0) + x.begins(1), 0);
        x.late(1, 3);
        Check.due("19: TEAM 0 takes both", x.given(0) + x.given(1), 0);
        x.late(0, 9);
        Check.due("19: TEAM 1 takes both", x.given(0) + x.given(1), 2);
        Check.due("19: from minute 3 on", x.begins(0), 3);
    }

    // ---- promise 20: "but not beyond END"; "-6 n not 1 to 240, not in the HOURS" ----

    private static void minutesRefusals() {
        for (int wrong : new int[] {0, 241, -1, MIN, MAX}) {
            refused("20: -6 n " + wrong, Museums.inTheHours(), -6, y -> y.minutes(wrong));
            refused("20: -6 n and the time " + wrong, Museums.ahead(), -6, y -> y.minutes(wrong));
        }
        for (int n : new int[] {1, 240}) {
            refused("20: -6 ahead of the ALARM", Museums.ahead(), -6, y -> y.minutes(n));
            refused("20: -6 in the YEARS", Museums.inTheYears(), -6, y -> y.minutes(n));
        }
    }

    private static void minutesToEnd() {
        for (int n = 9; n <= 240; n += n < 12 ? 1 : 38) {
            MuseumFlight x = new MuseumFlight();
            x.alarm(10);
            int lived = Math.min(n, 10);
            int many = n;
            taken("20: " + n + " minutes to END 10", x, lived, y -> y.minutes(many));
            Check.due("20: NOW", x.status(18), lived);
            Check.due("20: END: the YEARS begin", x.status(10), lived == 10 ? 2 : 1);
            Check.due("20: WEEK 0", x.status(19), 0);
        }
        MuseumFlight x = new MuseumFlight();
        x.alarm(240);
        taken("20: 240 minutes", x, 240, y -> y.minutes(240));
    }

    /** One minute lived 30 times is 30 minutes lived once. */
    private static void minuteByMinute() {
        MuseumFlight one = house(2, 10, 0, 20, 5, 30, 7, 5, 1, 9, 9);
        MuseumFlight all = house(2, 10, 0, 20, 5, 30, 7, 5, 1, 9, 9);
        one.alarm(30);
        all.alarm(30);
        for (int i = 0; i < 30; i++) {
            one.minutes(1);
        }
        all.minutes(30);
        Check.holds("20: minute by minute", Museums.picture(one).equals(Museums.picture(all)));
    }

    /** "done one right behind the other": what is out in a minute makes room for the next JOB in that minute. */
    private static void atOnceNextJob() {
        MuseumFlight x = house(1, 10, 0, 9, 1);
        x.alarm(5);
        x.minutes(2);
        Check.due("20: out behind LENGTH minutes", x.about(0, 0), 300);
        Check.due("20: the next isn't begun yet", x.about(1, 0), 101);
        Check.due("23: it is begun NOW", x.begins(1), 2);
        x.minutes(1);
        Check.due("20: it is begun", x.about(1, 0), 200);
        Check.due("20: begun in minute 2", x.seal(1, 0, 0), 2);
        x.minutes(2);
        Check.due("20: out in minute 5", x.seal(1, 1, 0), 5);
    }

    /** "What is IN HAND comes out as told." */
    private static void inHandComesOut() {
        for (int way = 0; way < 3; way++) {
            MuseumFlight x = house(1, 10, 3, 20, 3);
            x.alarm(60);
            x.minutes(1);
            if (way == 0) {
                taken("18: BLOCKED behind it", x, 0, y -> y.block(0));
            } else if (way == 1) {
                taken("7: DANGER behind it", x, -1, y -> y.danger(1, 1));
            } else {
                taken("16: planned anew", x, 20, y -> y.plan(true));
            }
            Check.due("IN HAND", x.about(0, 0), 200);
            Check.due("22: its TEAM", x.given(0), 0);
            Check.due("the other's TEAM", x.given(1), way == 2 ? 0 : -1);
            x.minutes(3);
            Check.due("IN HAND still", x.about(0, 0), 200);
            x.minutes(1);
            Check.due("in the YARD", x.about(0, 0), 300);
            Check.due("behind LENGTH minutes", x.seal(0, 1, 0), 5);
        }
    }

    /** "THE PLAN of what is in ROOMS still is made anew": what is IN HAND isn't counted. */
    private static void planIsMadeAnew() {
        MuseumFlight x = house(1, 10, 0, 20, 0, 30, 0);
        Check.due("15: all", x.alarm(6), 60);
        x.minutes(1);
        Check.due("16: in ROOMS still", x.plan(false), 50);
        Check.due("18: no DOOR but one", x.danger(2, 100), -1);
        x.minutes(1);
        Check.due("19: LATE with two left", x.late(0, 1), 30);
        Check.due("19: THING 2, of the greater rate", x.given(2), 0);
        Check.due("19: THING 1 isn't given", x.given(1), -1);
        Check.due("19: it begins in minute 3", x.begins(2), 3);
    }

    // ---- promise 22 and 23 ----

    private static void givenNobody() {
        for (MuseumFlight x : new MuseumFlight[] {Museums.ahead(), Museums.inTheHours(), Museums.inTheYears()}) {
            for (int none : new int[] {-1, 3, 16, MIN, MAX}) {
                seen("22: NONE: no such THING " + none, x, -1, y -> y.given(none));
                seen("23: NONE: no such THING " + none, x, -1, y -> y.begins(none));
            }
        }
        for (int i = 0; i < 3; i++) {
            int thing = i;
            seen("22: no PLAN ahead of the ALARM", Museums.ahead(), -1, y -> y.given(thing));
            seen("23: no PLAN ahead of the ALARM", Museums.ahead(), -1, y -> y.begins(thing));
            seen("22: no TEAM in the YEARS", Museums.inTheYears(), -1, y -> y.given(thing));
            seen("23: no JOB in the YEARS", Museums.inTheYears(), -1, y -> y.begins(thing));
        }
    }

    private static void beginsWhen() {
        MuseumFlight x = Museums.inTheHours();
        seen("22: IN HAND", x, 0, y -> y.given(0));
        seen("23: IN HAND: not in a ROOM", x, -1, y -> y.begins(0));
        seen("22: by THE PLAN", x, 0, y -> y.given(1));
        seen("23: right behind the other", x, 2, y -> y.begins(1));
        seen("22: without a way", x, -1, y -> y.given(2));
        seen("23: without a way", x, -1, y -> y.begins(2));
        x.minutes(1);
        seen("22: in the YARD", x, -1, y -> y.given(0));
        seen("23: in the YARD", x, -1, y -> y.begins(0));
        seen("23: NOW", x, 2, y -> y.begins(1));
        x.late(0, 7);
        seen("23: as things are", x, 9, y -> y.begins(1));
        x.minutes(7);
        seen("23: NOW it is FREE", x, 9, y -> y.begins(1));
        x.danger(2, 9);
        seen("23: in DANGER", x, -1, y -> y.begins(1));
    }

    // ---- "At END what is in a ROOM is LOST, and THE YEARS begin." ----

    private static void lostAtEnd() {
        MuseumFlight x = Museums.ahead();
        x.alarm(2);
        x.minutes(1);
        Check.due("IN HAND ahead of END", x.status(5), 1);
        Check.due("in ROOMS ahead of END", x.status(4), 2);
        Check.due("none LOST ahead of END", x.status(8), 0);
        x.minutes(1);
        Check.due("none IN HAND", x.status(5), 0);
        Check.due("none in ROOMS", x.status(4), 0);
        Check.due("LOST", x.status(8), 2);
        Check.due("in the YARD", x.status(6), 1);
        int[] from = {200, 102, 109};
        int[] to = {300, 500, 500};
        for (int i = 0; i < 3; i++) {
            int last = x.about(i, 6) - 1;
            Check.due("SEALS", last, i == 0 ? 1 : 0);
            Check.due("TIME: the minute END", x.seal(i, last, 0), 2);
            Check.due("where it was", x.seal(i, last, 1), from[i]);
            Check.due("where it is", x.seal(i, last, 2), to[i]);
        }
    }
}
