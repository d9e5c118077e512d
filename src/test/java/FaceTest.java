import java.io.IOException;
import java.lang.reflect.Constructor;
import java.lang.reflect.Field;
import java.lang.reflect.Method;
import java.lang.reflect.Modifier;
import java.nio.file.Files;
import java.nio.file.Path;
import java.util.HashSet;
import java.util.Set;
import java.util.TreeSet;
import java.util.regex.Matcher;
import java.util.regex.Pattern;

/** The class's public face is the document's and nothing more; what is inside stays inside. */
public final class FaceTest {
    private static final Path DOCUMENT = Path.of("../shared/DOC.md");
    private static final Pattern CALL =
        Pattern.compile("^ {4}public ((?:int |long )?\\w+\\(.*\\));$", Pattern.MULTILINE);
    private static final Pattern CONSTANTS =
        Pattern.compile("^ {4}public static final (\\w+) (.*);$", Pattern.MULTILINE);
    private static final Pattern PROMISE = Pattern.compile("^`((?:int |long )?\\w+\\(.*?\\))`: ", Pattern.MULTILINE);

    private FaceTest() {
    }

    public static void main(String[] args) throws IOException, IllegalAccessException {
        String document = Files.readString(DOCUMENT).replace("\r", "");
        int from = document.indexOf("```java");
        String face = document.substring(from, document.indexOf("```", from + 3));
        same("calls", all(CALL, face), shownCalls());
        same("calls of the promises", all(PROMISE, document.substring(document.indexOf("## Promise 1"))), shownCalls());
        same("constants", constants(face), shownConstants());
        theClassItself();
        for (Class<?> inside : SnoresGold.class.getDeclaredClasses()) {
            insideIsHidden(inside);
        }
        Due.end();
    }

    private static void same(String what, Set<String> want, Set<String> got) {
        Due.due("the document has no " + what, want.isEmpty() ? 1 : 0, 0);
        for (String one : want) {
            Due.due(what + ": " + one + " is there", got.contains(one) ? 1 : 0, 1);
        }
        for (String one : got) {
            Due.due(what + ": " + one + " is asked for", want.contains(one) ? 1 : 0, 1);
        }
    }

    /** Without the parameters' names, as the machine does not keep them. */
    private static Set<String> all(Pattern pattern, String text) {
        Set<String> found = new TreeSet<>();
        Matcher call = pattern.matcher(text);
        while (call.find()) {
            found.add(call.group(1).replaceAll("(int|long|boolean) \\w+(?=[,)])", "$1"));
        }
        return found;
    }

    private static String parameters(Class<?>[] types) {
        StringBuilder text = new StringBuilder("(");
        for (Class<?> type : types) {
            text.append(text.length() > 1 ? ", " : "").append(type.getName());
        }
        return text.append(")").toString();
    }

    private static Set<String> shownCalls() {
        Set<String> shown = new TreeSet<>();
        for (Constructor<?> constructor : SnoresGold.class.getDeclaredConstructors()) {
            if (!Modifier.isPrivate(constructor.getModifiers())) {
                shown.add(visibility(constructor.getModifiers()) + "SnoresGold"
                    + parameters(constructor.getParameterTypes()));
            }
        }
        for (Method method : SnoresGold.class.getDeclaredMethods()) {
            if (!Modifier.isPrivate(method.getModifiers()) && !method.isSynthetic()) {
                shown.add(visibility(method.getModifiers()) + method.getReturnType().getName() + " "
                    + method.getName() + parameters(method.getParameterTypes()));
            }
        }
        return shown;
    }

    /** Nothing if it is as the document has it, so that any other stands out. */
    private static String visibility(int modifiers) {
        return modifiers == Modifier.PUBLIC ? "" : Modifier.toString(modifiers) + " [not just public] ";
    }

    /** One by one, as a line may hold several. */
    private static Set<String> constants(String face) {
        Set<String> found = new TreeSet<>();
        Matcher line = CONSTANTS.matcher(face);
        while (line.find()) {
            for (String constant : line.group(2).split(", ")) {
                found.add(line.group(1) + " " + constant.replaceAll("L$", ""));
            }
        }
        return found;
    }

    private static Set<String> shownConstants() throws IllegalAccessException {
        int due = Modifier.PUBLIC | Modifier.STATIC | Modifier.FINAL;
        Set<String> shown = new TreeSet<>();
        for (Field field : SnoresGold.class.getDeclaredFields()) {
            if (field.getModifiers() == due) {
                shown.add(field.getType().getName() + " " + field.getName() + " = " + field.get(null));
            } else if (!Modifier.isPrivate(field.getModifiers())) {
                shown.add(field.toString());
            }
        }
        return shown;
    }

    private static void theClassItself() {
        int due = Modifier.PUBLIC | Modifier.FINAL;
        Due.due("modifiers of the class", SnoresGold.class.getModifiers(), due);
        Due.due("it extends Object", SnoresGold.class.getSuperclass() == Object.class ? 1 : 0, 1);
        Due.due("it implements", SnoresGold.class.getInterfaces().length, 0);
        Set<String> names = new HashSet<>();
        for (Method method : SnoresGold.class.getDeclaredMethods()) {
            Due.due("one method of the name " + method.getName(), names.add(method.getName()) ? 1 : 0, 1);
        }
        fields(SnoresGold.class);
    }

    private static void insideIsHidden(Class<?> inside) {
        int modifiers = inside.getModifiers();
        Due.due(inside + " is static", Modifier.isStatic(modifiers) ? 1 : 0, 1);
        Due.due(inside + " is hidden", modifiers & (Modifier.PUBLIC | Modifier.PROTECTED), 0);
        fields(inside);
    }

    private static void fields(Class<?> owner) {
        int count = 0;
        for (Field field : owner.getDeclaredFields()) {
            boolean isStatic = Modifier.isStatic(field.getModifiers());
            count += isStatic ? 0 : 1;
            boolean loose = isStatic && !Modifier.isFinal(field.getModifiers());
            Due.due(field + " is static and not final", loose ? 1 : 0, 0);
        }
        Due.due(owner + " has at most twenty fields: " + count, count <= 20 ? 1 : 0, 1);
    }
}
