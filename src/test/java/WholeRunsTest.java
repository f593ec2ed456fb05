import java.lang.reflect.InvocationTargetException;
import java.lang.reflect.Method;
import java.util.HashMap;
import java.util.Map;
import java.util.TreeMap;

/** All promises: runs of up to 512 calls, each answer against MuseumModel, with many arguments at and beyond the edges. */
public final class WholeRunsTest {
    private static final int RUNS = 1200;
    private static final int CALLS = 500;

    /** The domain of each argument: a letter, of which Domains below tells the least and greatest value. */
    private static final String[] FACE = {
        "door RRm", "team h", "thing kwhRp", "label S", "fault", "danger Rt", "row Ssn", "set SiV", "copy SSiin", "element Si", "show ST",
        "holds S", "worthIn S", "alarm t", "plan B", "gap", "block D", "late Xl", "minutes l", "far R", "given T", "begins T",
        "place ogm", "air PS", "airIn Pi", "band kbb", "keep kf", "fuel u", "spread B", "move TP", "weeks z", "lose g", "found T",
        "paper TWyy", "holder Ty", "giveBack Ty", "about Ta", "seal Tac", "quarrel SSS", "said SSST", "status v",
    };
    private static final String DOMAINS = "R 0 11,m 1 9,h 1 4,k 0 3,w 1 100,p 0 20,S 0 7,t 0 240,s 0 3,n 0 60,i 0 59,T 0 15,D 0 19,X 0 2,"
        + "l 1 60,o 1 40,g 0 3,P 0 4,b 0 100,f 0 9,u 0 10000,z 1 60,W 0 9,y 0 200,a 0 7,c 0 2,v 0 20";

    private static final Map<String, Method> OF_CLASS = new HashMap<>();
    private static final Map<String, Method> OF_MODEL = new HashMap<>();
    private static final Map<String, String> ARGUMENTS = new TreeMap<>();
    private static final Map<Character, int[]> BOUNDS = new HashMap<>();
    private static final Map<String, Integer> ANSWERED = new TreeMap<>();

    private final Dice dice;
    private final int seed;
    private final MuseumFlight x = new MuseumFlight();
    private final MuseumModel m = new MuseumModel();
    private int calls = 0;

    private WholeRunsTest(int seed) {
        this.seed = seed;
        dice = new Dice(seed + 40000);
    }

    public static void main(String[] args) throws IllegalAccessException, InvocationTargetException {
        for (String line : FACE) {
            String[] words = line.split(" ");
            ARGUMENTS.put(words[0], words.length > 1 ? words[1] : "");
        }
        for (String domain : DOMAINS.split(",")) {
            String[] words = domain.split(" ");
            BOUNDS.put(words[0].charAt(0), new int[] {Integer.parseInt(words[1]), Integer.parseInt(words[2])});
        }
        note(MuseumFlight.class, OF_CLASS);
        note(MuseumModel.class, OF_MODEL);
        Check.due("calls of the face", OF_CLASS.size(), 41);
        for (int run = 0; run < RUNS; run++) {
            new WholeRunsTest(run).run();
        }
        reached();
        Check.end();
    }

    private static void note(Class<?> type, Map<String, Method> methods) {
        for (Method method : type.getDeclaredMethods()) {
            if (java.lang.reflect.Modifier.isPublic(method.getModifiers())) {
                methods.put(method.getName(), method);
            }
        }
    }

    /** Each call was refused in some run by each refusal that its promise names, and was taken in some. */
    private static void reached() {
        String due = "door -1 -6 -7,team -6 -7,thing -1 -6 -7,label -1 -2 -3 -6 -7,danger -1 -6,row -1 -4 -6 -7,set -1 -2 -3 -5,"
            + "copy -1 -2 -3 -4 -5,show -1,worthIn -1 -2 -3,alarm -6,plan -6 -7,gap -6 -7,block -1 -6,late -1 -6,minutes -6,"
            + "place -1 -6 -7,air -1 -2 -3,band -1 -6,keep -1 -6,fuel -6,spread -6 -7,move -1 -6 -7,weeks -6 -7,lose -1 -6,"
            + "found -1 -6,paper -1 -6 -7,giveBack -1 -6,quarrel -1 -2 -3";
        for (String line : due.split(",")) {
            String[] words = line.split(" ");
            for (int i = 1; i < words.length; i++) {
                Check.holds("some run refuses " + words[0] + " by " + words[i], ANSWERED.getOrDefault(words[0] + " " + words[i], 0) > 0);
            }
        }
        for (String call : ARGUMENTS.keySet()) {
            Check.holds("some run takes " + call, ANSWERED.getOrDefault(call + " taken", 0) > 0);
        }
    }

    private void run() throws IllegalAccessException, InvocationTargetException {
        int rooms = dice.from(2, dice.once(4) ? 11 : 4);
        int things = dice.once(5) ? 17 : dice.from(0, dice.once(2) ? 10 : 5);
        build(rooms, things);
        int ahead = dice.next(60);
        for (int i = 0; i < ahead; i++) {
            any();
        }
        if (!dice.once(12)) {
            tell("alarm", dice.once(3) ? 240 : dice.from(1, 120));
        }
        hours(dice.next(90));
        if (!dice.once(9)) {
            tell("minutes", 240);
            tell("fuel", dice.once(3) ? dice.next(60) : dice.next(10001));
        }
        while (calls < CALLS) {
            if (dice.once(2)) {
                any();
            } else {
                year();
            }
        }
        look();
    }

    /** DOORS, TEAMS, THINGS, PLACES with AIR, and ROWS, most of them as they may be. */
    private void build(int rooms, int things) throws IllegalAccessException, InvocationTargetException {
        int doors = dice.once(9) ? 21 : dice.from(0, 8);
        for (int d = 0; d < doors; d++) {
            tell("door", d < rooms - 1 ? d : dice.next(rooms), d < rooms - 1 ? d + 1 : dice.next(rooms), dice.from(1, dice.once(3) ? 9 : 3));
        }
        for (int k = dice.from(0, 4); k > 0; k--) {
            tell("team", dice.from(1, 4));
        }
        for (int i = 0; i < things; i++) {
            if (dice.once(8)) {
                writeLabel(rooms);
            } else {
                tell("thing", dice.next(4), dice.from(1, dice.once(2) ? 100 : 5), dice.from(1, 4), dice.from(1, rooms - 1), dice.next(dice.once(2) ? 21 : 3));
            }
        }
        int places = dice.once(9) ? 6 : dice.from(0, 5);
        for (int p = 0; p < places; p++) {
            tell("place", dice.from(1, dice.once(2) ? 40 : 9), dice.next(4), dice.from(1, 9));
            writeAir(p);
        }
    }

    private void writeLabel(int rooms) throws IllegalAccessException, InvocationTargetException {
        String text = "k" + dice.next(4) + "w" + dice.from(1, 100) + "h" + dice.from(1, 4) + "r" + dice.from(1, rooms - 1) + "p" + dice.next(21);
        if (dice.once(2)) {
            int at = dice.next(text.length());
            text = text.substring(0, at) + "kwhrp0123456789".charAt(dice.next(15)) + text.substring(at + dice.next(2));
        }
        int s = dice.next(8);
        tell("row", s, dice.next(4), text.length());
        for (int i = 0; i < text.length(); i++) {
            tell("set", s, i, (long) text.charAt(i));
        }
        tell("label", s);
        tell("fault");
    }

    private void writeAir(int p) throws IllegalAccessException, InvocationTargetException {
        int sort = dice.next(4);
        int size = dice.next(4);
        tell("row", 6, sort, size);
        long[] least = {-128, -32768, Integer.MIN_VALUE, Long.MIN_VALUE};
        for (int i = 0; i < size; i++) {
            tell("set", 6, i, dice.once(7) ? least[dice.next(4)] : (long) dice.from(-3, 103));
        }
        tell("air", p, 6);
    }

    private void hours(int many) throws IllegalAccessException, InvocationTargetException {
        for (int i = 0; i < many && calls < CALLS; i++) {
            switch (dice.next(12)) {
                case 0: tell("block", dice.next(9)); break;
                case 1: tell("danger", dice.from(1, 4), dice.once(4) ? -1 : dice.next(100)); break;
                case 2: tell("late", dice.next(3), dice.from(1, 9)); break;
                case 3: tell("plan", dice.once(2)); break;
                case 4: tell("gap"); break;
                case 5: tell("minutes", dice.from(1, 9)); break;
                case 6: any(); break;
                default: tell(dice.once(2) ? "given" : "begins", dice.next(9)); break;
            }
        }
    }

    private void year() throws IllegalAccessException, InvocationTargetException {
        switch (dice.next(12)) {
            case 0: tell("keep", dice.next(4), dice.once(3) ? dice.next(3) : 0); break;
            case 1: tell("band", dice.next(4), dice.next(50), dice.from(40, 100)); break;
            case 2: tell("weeks", seed % 20 == 7 || dice.once(6) ? 60 : dice.from(1, 3)); break;
            case 3: tell("lose", dice.next(4)); break;
            case 4: tell("found", dice.next(9)); break;
            case 5: tell("fuel", dice.next(300)); break;
            case 6: tell("paper", dice.next(4), dice.next(3), dice.next(4), dice.from(2, 6)); break;
            case 7: tell("giveBack", dice.next(9), dice.next(6)); break;
            case 8: tell("spread", true); break;
            case 9: tell("spread", false); break;
            case 10: if (calls + 6 < CALLS) { writeAir(dice.next(5)); } break;
            default: tell("move", dice.next(9), dice.next(5)); break;
        }
    }

    /** A call with any arguments: most in their domain, some just beyond, few far beyond. */
    private void any() throws IllegalAccessException, InvocationTargetException {
        String call = FACE[dice.next(FACE.length)].split(" ")[0];
        if (call.equals("alarm") && !dice.once(20)) {
            return;
        }
        String letters = ARGUMENTS.get(call);
        Object[] arguments = new Object[letters.length()];
        for (int i = 0; i < arguments.length; i++) {
            arguments[i] = argument(letters.charAt(i));
        }
        tell(call, arguments);
    }

    private Object argument(char letter) {
        if (letter == 'B') {
            return dice.once(2);
        }
        if (letter == 'V') {
            return dice.once(2) ? dice.from(-2, 120) : (long) dice.next(Integer.MAX_VALUE) << dice.next(34);
        }
        int[] bounds = BOUNDS.get(letter);
        switch (dice.next(20)) {
            case 0: return bounds[0] - 1;
            case 1: return bounds[1] + 1;
            case 2: return dice.once(6) ? dice.once(2) ? Integer.MIN_VALUE : Integer.MAX_VALUE : bounds[1];
            case 3: return bounds[0];
            case 4: return bounds[1];
            case 5:
            case 6:
            case 7: return dice.from(bounds[0], bounds[1]);
            default: return dice.from(bounds[0], Math.min(bounds[1], bounds[0] + 5));
        }
    }

    private void tell(String call, Object... arguments) throws IllegalAccessException, InvocationTargetException {
        if (calls >= 511) {
            return;
        }
        calls++;
        ask(call, arguments);
    }

    private void ask(String call, Object... arguments) throws IllegalAccessException, InvocationTargetException {
        if (call.equals("set")) {
            arguments[2] = ((Number) arguments[2]).longValue();
        }
        int refused = Museums.refusals(x);
        long got = ((Number) OF_CLASS.get(call).invoke(x, arguments)).longValue();
        long want = ((Number) OF_MODEL.get(call).invoke(m, arguments)).longValue();
        boolean taken = Museums.refusals(x) == refused;
        ANSWERED.merge(call + " " + (taken ? "taken" : want), 1, Integer::sum);
        if (got != want) {
            Check.due("run " + seed + ", call " + calls + ": " + call + java.util.Arrays.toString(arguments), got, want);
        } else {
            Check.due("", 0, 0);
        }
    }

    /** At the end all that can be looked at. */
    private void look() throws IllegalAccessException, InvocationTargetException {
        for (int what = -1; what <= 21; what++) {
            ask("status", what);
        }
        for (int i = 0; i < 16; i++) {
            for (int what = 0; what < 8; what++) {
                ask("about", i, what);
            }
            for (int s = 0; s <= x.about(i, 6); s++) {
                for (int what = 0; what < 3; what++) {
                    ask("seal", i, s, what);
                }
            }
            ask("given", i);
            ask("begins", i);
        }
        for (int s = 0; s < 8; s++) {
            ask("holds", s);
            for (int i = 0; i < 60; i++) {
                ask("element", s, i);
            }
        }
        for (int k = 0; k < 4; k++) {
            ask("keep", k, 0);
        }
        for (int r = 0; r < 12; r++) {
            ask("far", r);
            ask("danger", r, -1);
        }
    }
}
