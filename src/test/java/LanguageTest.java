import java.io.IOException;
import java.nio.file.Files;
import java.nio.file.Path;
import java.util.HashSet;
import java.util.List;
import java.util.Set;
import java.util.regex.Matcher;
import java.util.regex.Pattern;

/** Those rules of ../shared/LANGUAGE.md that can be read off the source's lines. */
public final class LanguageTest {
    private static final Path SOURCE = Path.of("src/main/java/SnoresGold.java");
    private static final String[] BANNED = {"\\bthrow\\b", "\\btry\\b", "\\bcatch\\b", "\\bsynchronized\\b",
        "\\bassert\\b", "->", "::", "\\bimport\\b", "\\bpackage\\b", "Exact\\(", "\\bprotected\\b",
        "\\bSystem\\.(?!arraycopy)",
        "\\b(Object|Thread|Random|Runtime|File)\\b", "\\b(equals|hashCode|toString)\\(", "\\bnull\\b"};
    private static final Pattern METHOD =
        Pattern.compile("^( {4}| {8})(?! )[a-z].*?(\\w+)\\(([^)]*)\\) \\{$");
    private static final Pattern MAKES = Pattern.compile("^ +\\w+ = new \\w+(\\(\\)|\\[\\w+\\]);$");

    private LanguageTest() {
    }

    public static void main(String[] args) throws IOException {
        List<String> lines = Files.readAllLines(SOURCE);
        banned(lines);
        methods(lines);
        makes(lines);
        shape(lines);
        Due.end();
    }

    private static String bare(String line) {
        return line.replaceAll("'.'", "' '").replaceAll("//.*", "").replaceAll("^ *(/\\*\\*|\\*).*", "");
    }

    private static void banned(List<String> lines) {
        for (int i = 0; i < lines.size(); i++) {
            for (String word : BANNED) {
                boolean found = Pattern.compile(word).matcher(bare(lines.get(i))).find();
                Due.due("line " + (i + 1) + " has " + word, found ? 1 : 0, 0);
            }
        }
    }

    private static void methods(List<String> lines) {
        Set<String> publicNames = new HashSet<>();
        Set<String> otherNames = new HashSet<>();
        for (int i = 0; i < lines.size(); i++) {
            Matcher method = METHOD.matcher(lines.get(i));
            if (!method.matches() || method.group(2).matches("if|for|while|switch")) {
                continue;
            }
            (lines.get(i).contains("public ") ? publicNames : otherNames).add(method.group(2));
            int parameters = method.group(3).isEmpty() ? 0 : method.group(3).split(",").length;
            Due.due(method.group(2) + " has " + parameters + " parameters", parameters <= 7 ? 0 : 1, 0);
            int end = i;
            while (!lines.get(end).equals(method.group(1) + "}")) {
                end++;
            }
            Due.due(method.group(2) + " has " + (end - i + 1) + " lines", end - i + 1 <= 60 ? 0 : 1, 0);
        }
        Due.due("public methods and the constructor", publicNames.size(), 33);
        otherNames.retainAll(publicNames);
        Due.due("private methods with the name of a public one: " + otherNames, otherNames.size(), 0);
    }

    /** Calls make nothing: all that is made is made by constructors, for good. */
    private static void makes(List<String> lines) {
        boolean inConstructor = false;
        for (int i = 0; i < lines.size(); i++) {
            String line = bare(lines.get(i));
            inConstructor = line.matches(" +(public )?[A-Z]\\w*\\(\\) \\{")
                || inConstructor && !line.matches(" {4}( {4})?}");
            if (line.contains("new ")) {
                Due.due("line " + (i + 1) + " makes", inConstructor && MAKES.matcher(line).matches() ? 0 : 1, 0);
            }
        }
    }

    private static void shape(List<String> lines) {
        int classes = 0;
        for (int i = 0; i < lines.size(); i++) {
            String line = bare(lines.get(i));
            classes += line.matches(".*\\bclass \\w+ \\{") ? 1 : 0;
            boolean loose = line.contains(" static ") && line.endsWith(";") && !line.contains(" final ");
            Due.due("line " + (i + 1) + " has a static that is not final", loose ? 1 : 0, 0);
            boolean seven = lines.get(i).chars().allMatch(sign -> sign < 127);
            Due.due("line " + (i + 1) + " has signs beyond 126", seven ? 0 : 1, 0);
        }
        Due.due("classes: " + classes, classes <= 12 ? 0 : 1, 0);
    }
}
