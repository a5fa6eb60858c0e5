import java.io.IOException;
import java.lang.reflect.InvocationTargetException;
import java.lang.reflect.Method;
import java.lang.reflect.Modifier;
import java.nio.file.Files;
import java.nio.file.Path;
import java.util.Set;
import java.util.TreeSet;
import java.util.regex.Matcher;
import java.util.regex.Pattern;

/** Makes each call that README.md shows, in its order, and compares the answer with the one told behind it. */
public final class ReadmeTests {
    private static final Pattern SHOWN = Pattern.compile("(?s)```java\n(.*?)```");
    private static final Pattern CALL = Pattern.compile("hall\\.(\\w+)\\(([^)]*)\\);\\s*// (throws \\w+|\\S+).*");
    private static final Checks checks = new Checks("ReadmeTests");

    private ReadmeTests() {
    }

    public static void main(String[] args) throws IOException, ReflectiveOperationException {
        Matcher shown = SHOWN.matcher(Files.readString(Path.of("README.md")));
        Set<String> called = new TreeSet<>();
        Quietpaper hall = null;
        while (shown.find()) {
            for (String line : shown.group(1).split("\n")) {
                Matcher call = CALL.matcher(line);
                if (line.equals("Quietpaper hall = new Quietpaper();")) {
                    hall = new Quietpaper();
                } else if (call.matches()) {
                    called.add(call.group(1));
                    checks.due(line, answer(hall, call.group(1), call.group(2)), call.group(3));
                } else {
                    checks.holds("a call and its answer, or a comment: " + line, line.matches("|//.*"));
                }
            }
        }
        checks.due("the calls that are shown", called, face());
        checks.end();
    }

    private static Set<String> face() {
        Set<String> names = new TreeSet<>();
        for (Method method : Quietpaper.class.getDeclaredMethods()) {
            if (Modifier.isPublic(method.getModifiers())) {
                names.add(method.getName());
            }
        }
        return names;
    }

    private static String answer(Quietpaper hall, String name, String told) throws ReflectiveOperationException {
        String[] words = told.isEmpty() ? new String[0] : told.split(",\\s*");
        Object[] arguments = new Object[words.length];
        Class<?>[] kinds = new Class<?>[words.length];
        for (int i = 0; i < words.length; i++) {
            boolean isNumber = words[i].matches("-?\\d+");
            kinds[i] = isNumber ? int.class : boolean.class;
            arguments[i] = isNumber ? (Object) Integer.valueOf(words[i]) : (Object) Boolean.valueOf(words[i]);
        }
        try {
            Object answer = Quietpaper.class.getMethod(name, kinds).invoke(hall, arguments);
            return answer instanceof String ? "\"" + answer + "\"" : String.valueOf(answer);
        } catch (InvocationTargetException e) {
            return "throws " + e.getCause().getClass().getSimpleName();
        }
    }
}
