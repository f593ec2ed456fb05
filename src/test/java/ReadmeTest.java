import java.io.IOException;
import java.lang.reflect.InvocationTargetException;
import java.lang.reflect.Method;
import java.nio.file.Files;
import java.nio.file.Path;
import java.util.regex.Matcher;
import java.util.regex.Pattern;

/** What README.md tells of the class holds: its run answers as it says, and it names every call. */
public final class ReadmeTest {
    private static final Pattern CALL = Pattern.compile("(?m)^museum\\.(\\w+)\\(([^)]*)\\);\\s*// (-?\\d+)(: .*)?$");

    public static void main(String[] args) throws IOException, ReflectiveOperationException {
        String text = Files.readString(Path.of("README.md"));
        run(text);
        names(text);
        tests(text);
        Check.end();
    }

    private static void run(String text) throws ReflectiveOperationException {
        MuseumFlight museum = new MuseumFlight();
        Matcher matcher = CALL.matcher(text);
        int calls = 0;
        while (matcher.find()) {
            calls++;
            Check.due(matcher.group(1) + "(" + matcher.group(2) + ")", answer(museum, matcher.group(1), matcher.group(2)),
                Long.parseLong(matcher.group(3)));
        }
        Check.due("calls told with their answers", calls, text.split("\nmuseum\\.", -1).length - 1);
        Check.holds("a run is told", calls > 30);
    }

    private static long answer(MuseumFlight museum, String name, String list) throws ReflectiveOperationException {
        String[] words = list.isEmpty() ? new String[0] : list.split(", ");
        Method method = named(name);
        Object[] values = new Object[words.length];
        for (int i = 0; i < words.length; i++) {
            Class<?> type = method.getParameterTypes()[i];
            values[i] = type == boolean.class ? (Object) Boolean.valueOf(words[i])
                : type == long.class ? (Object) Long.valueOf(words[i]) : (Object) Integer.valueOf(words[i]);
        }
        try {
            return ((Number) method.invoke(museum, values)).longValue();
        } catch (InvocationTargetException thrown) {
            throw new IllegalStateException(name + " threw", thrown.getCause());
        }
    }

    private static Method named(String name) {
        for (Method method : MuseumFlight.class.getMethods()) {
            if (method.getName().equals(name) && method.getDeclaringClass() == MuseumFlight.class) {
                return method;
            }
        }
        throw new IllegalStateException("no call " + name);
    }

    private static void names(String text) {
        for (Method method : MuseumFlight.class.getMethods()) {
            if (method.getDeclaringClass() == MuseumFlight.class) {
                Check.holds("named: " + method.getName(), text.contains("`" + method.getName() + "`"));
            }
        }
    }

    private static void tests(String text) throws IOException {
        try (var files = Files.list(Path.of("src/test/java"))) {
            files.map(file -> file.getFileName().toString()).filter(name -> name.endsWith("Test.java"))
                .forEach(name -> Check.holds("told: " + name, text.contains(name.replace(".java", ""))));
        }
    }
}
