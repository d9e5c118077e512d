import java.io.IOException;
import java.lang.reflect.InvocationTargetException;
import java.lang.reflect.Method;
import java.lang.reflect.Modifier;
import java.nio.file.Files;
import java.nio.file.Path;
import java.util.regex.Matcher;
import java.util.regex.Pattern;

/** Runs the example in README.md: each call must answer what stands behind it. */
public final class ReadmeTest {
    private static final Path README = Path.of("README.md");
    private static final Pattern CALL = Pattern.compile("camp\\.(\\w+)\\((.*?)\\); +// (-?\\d+): .*");
    private static final Pattern WEEK = Pattern.compile("String week = \"(.*)\"; .*");
    private static final String LOOP = "for (int i = 0; i < week.length(); i++) {\n    camp.say(week.charAt(i));\n}\n";
    private static final String NEW = "SnoresGold camp = new SnoresGold();\n";

    private ReadmeTest() {
    }

    public static void main(String[] args) throws IOException, ReflectiveOperationException {
        String page = Files.readString(README).replace("\r", "");
        String begin = "```java\n";
        int from = page.indexOf(begin);
        String example = page.substring(from + begin.length(), page.indexOf("```", from + begin.length()));
        boolean begins = example.startsWith(NEW) && example.contains(LOOP);
        Due.due("the example makes a camp and says its week", begins ? 1 : 0, 1);
        run(example.replace(NEW, "").replace(LOOP, ""));
        namesEveryCall(page);
        Due.end();
    }

    /** The loop that says a week stands right behind the week's text, so it may be said there. */
    private static void run(String example) throws ReflectiveOperationException {
        SnoresGold camp = new SnoresGold();
        for (String line : example.split("\n")) {
            Matcher call = CALL.matcher(line);
            Matcher week = WEEK.matcher(line);
            if (call.matches()) {
                Due.due("README.md: " + line, ask(camp, call.group(1), call.group(2)), Long.parseLong(call.group(3)));
            } else if (week.matches()) {
                Due.sayAll(camp, week.group(1));
            } else {
                Due.due("README.md has a line that is not read: " + line, 1, 0);
            }
        }
    }

    private static long ask(SnoresGold camp, String name, String told) throws ReflectiveOperationException {
        String[] parts = told.isEmpty() ? new String[0] : told.split(", ");
        for (Method method : SnoresGold.class.getDeclaredMethods()) {
            if (method.getName().equals(name) && method.getParameterCount() == parts.length) {
                Object[] arguments = new Object[parts.length];
                for (int i = 0; i < parts.length; i++) {
                    boolean truth = method.getParameterTypes()[i] == boolean.class;
                    arguments[i] = truth ? Boolean.valueOf(parts[i]) : (Object) Integer.valueOf(parts[i]);
                }
                return answer(method, camp, arguments);
            }
        }
        throw new NoSuchMethodException(name);
    }

    private static long answer(Method method, SnoresGold camp, Object[] arguments) throws ReflectiveOperationException {
        try {
            return ((Number) method.invoke(camp, arguments)).longValue();
        } catch (InvocationTargetException thrown) {
            Due.due(method.getName() + " threw " + thrown.getCause(), 1, 0);
            return 0;
        }
    }

    private static void namesEveryCall(String page) {
        for (Method method : SnoresGold.class.getDeclaredMethods()) {
            if (Modifier.isPublic(method.getModifiers())) {
                Due.due("README.md names " + method.getName(), page.contains("`" + method.getName() + "`") ? 1 : 0, 1);
            }
        }
    }
}
