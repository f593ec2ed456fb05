import java.io.IOException;
import java.lang.reflect.Constructor;
import java.lang.reflect.Field;
import java.lang.reflect.Method;
import java.lang.reflect.Modifier;
import java.nio.file.Files;
import java.nio.file.Path;
import java.util.ArrayList;
import java.util.Arrays;
import java.util.HashSet;
import java.util.List;
import java.util.Set;
import java.util.TreeSet;
import java.util.regex.Matcher;
import java.util.regex.Pattern;

/** The face of the class is the document's, and its source keeps to what of LANGUAGE.md can be seen by its words. */
public final class FaceTest {
    private static final String FACE = "int door(int,int,int)|int team(int)|int thing(int,int,int,int,int)|int label(int)|int fault()"
        + "|int danger(int,int)|int row(int,int,int)|int set(int,int,long)|int copy(int,int,int,int,int)|long element(int,int)"
        + "|int show(int,int)|int holds(int)|int worthIn(int)|int alarm(int)|int plan(boolean)|int gap()|int block(int)"
        + "|int late(int,int)|int minutes(int)|int far(int)|int given(int)|int begins(int)|int place(int,int,int)|int air(int,int)"
        + "|int airIn(int,int)|int band(int,int,int)|int keep(int,int)|int fuel(int)|int spread(boolean)|int move(int,int)"
        + "|int weeks(int)|int lose(int)|int found(int)|int paper(int,int,int,int)|int holder(int,int)|int giveBack(int,int)"
        + "|int about(int,int)|int seal(int,int,int)|int quarrel(int,int,int)|long said(int,int,int,int)|int status(int)";

    private static final String[] FORBIDDEN = {
        "\\bthrow\\b", "\\btry\\b", "\\bcatch\\b", "\\bsynchronized\\b", "\\bassert\\b", "->", "::", "\\bpackage\\b", "\\bpublic\\b.*\\bclass\\b.*\\{.*\\bpublic\\b",
        "\\bMath\\.\\w+Exact\\b", "\\bHashMap\\b", "\\bOptional\\b", "\\bRandom\\b", "\\bSystem\\.(?!arraycopy)", "\\bthis\\s*\\)", "\\bequals\\b",
        "\\bhashCode\\b", "\\btoString\\b", "\\bwhile \\(true\\)", "for \\(;;",
    };

    public static void main(String[] args) throws IOException {
        Set<String> names = new HashSet<>();
        face(names);
        members(names);
        nested(names);
        words();
        Check.end();
    }

    private static String told(Method method) {
        StringBuilder text = new StringBuilder(method.getReturnType().getName() + " " + method.getName() + "(");
        for (Class<?> type : method.getParameterTypes()) {
            text.append(text.charAt(text.length() - 1) == '(' ? "" : ",").append(type.getName());
        }
        return text.append(")").toString();
    }

    private static void face(Set<String> names) {
        Set<String> due = new TreeSet<>(Arrays.asList(FACE.split("\\|")));
        Set<String> got = new TreeSet<>();
        for (Method method : MuseumFlight.class.getDeclaredMethods()) {
            if (Modifier.isPublic(method.getModifiers())) {
                got.add(told(method));
                names.add(method.getName());
                Check.holds("no static " + method.getName(), !Modifier.isStatic(method.getModifiers()));
            }
        }
        Check.due("methods of the face", got.size(), 41);
        Check.holds("the face: " + got, got.equals(due));
        Check.holds("final", Modifier.isFinal(MuseumFlight.class.getModifiers()));
        Constructor<?>[] made = MuseumFlight.class.getDeclaredConstructors();
        Check.holds("one constructor", made.length == 1 && made[0].getParameterCount() == 0 && Modifier.isPublic(made[0].getModifiers()));
    }

    private static void members(Set<String> names) {
        int fields = 0;
        for (Field field : MuseumFlight.class.getDeclaredFields()) {
            boolean shown = !Modifier.isPrivate(field.getModifiers());
            Check.holds("no field shown: " + field, !shown || field.getName().equals("NONE"));
            Check.holds("no static state: " + field, !Modifier.isStatic(field.getModifiers()) || Modifier.isFinal(field.getModifiers()));
            fields += Modifier.isStatic(field.getModifiers()) ? 0 : 1;
        }
        Check.holds("some twenty fields", fields <= 20);
        for (Method method : MuseumFlight.class.getDeclaredMethods()) {
            if (!Modifier.isPublic(method.getModifiers())) {
                Check.holds("private: " + method, Modifier.isPrivate(method.getModifiers()));
                Check.holds("a name of its own: " + method, !names.contains(method.getName()));
            }
        }
    }

    private static void nested(Set<String> names) {
        Class<?>[] inside = MuseumFlight.class.getDeclaredClasses();
        Check.holds("some twelve classes", inside.length + 1 <= 12);
        for (Class<?> one : inside) {
            Check.holds("static, and not shown: " + one, Modifier.isStatic(one.getModifiers()) && !Modifier.isPublic(one.getModifiers()));
            Check.holds("some twenty fields: " + one, one.getDeclaredFields().length <= 22);
            for (Method method : one.getDeclaredMethods()) {
                Check.holds("at most seven parameters: " + method, method.getParameterCount() <= 7);
                Check.holds("a name of its own: " + method, !Modifier.isPrivate(method.getModifiers()) || !names.contains(method.getName()));
            }
        }
    }

    private static void words() throws IOException {
        String source = Files.readString(Path.of("src/main/java/MuseumFlight.java"));
        String code = source.replaceAll("(?s)/\\*.*?\\*/", "").replaceAll("//.*", "");
        for (String word : FORBIDDEN) {
            Matcher matcher = Pattern.compile(word).matcher(code);
            Check.holds("not in the source: " + word, !matcher.find());
        }
        List<String> imports = new ArrayList<>();
        for (String line : code.split("\n")) {
            if (line.startsWith("import ")) {
                imports.add(line.trim());
            }
        }
        Check.holds("imports: " + imports, List.of("import java.util.ArrayList;", "import java.util.Arrays;").equals(imports));
        for (int i = 0; i < source.length(); i++) {
            if (source.charAt(i) > 127) {
                Check.holds("signs 1 to 127 alone, at " + i, false);
            }
        }
    }
}
