import java.io.IOException;
import java.lang.reflect.InvocationTargetException;
import java.lang.reflect.Method;
import java.nio.file.Files;
import java.nio.file.Path;
import java.util.ArrayList;
import java.util.Arrays;
import java.util.Comparator;
import java.util.List;
import java.util.regex.Matcher;
import java.util.regex.Pattern;

/**
 * Runs every test of an edge, and looks whether the sentence that it names stands in the document, and whether the
 * document has a sentence that no test names.
 */
public final class EdgesTest {
    private static final Class<?>[] TESTS = {GroundEdges.class, WeeksEdges.class, TentsEdges.class, LodesEdges.class};
    private static final Path DOCUMENT = Path.of("../shared/DOC.md");
    private static final int PROMISES = 33;
    /** What only names what the next piece is about; and the order that no call names. */
    private static final Pattern HEADWORDS = Pattern.compile("(=+ \\d )?(\\(As things are now.\\) )?"
        + "((A|THE) )?[A-Z]+( now)?:|A MAN's SNORE:|The constants:|"
        + "where a call names them in another order, in that\\.|=+|What refused calls answer;|NONE:|there is none\\.|"
        + ".*Ahead of the calls .*|---- \\d .*");

    private EdgesTest() {
    }

    public static void main(String[] args) throws IOException {
        List<Method> tests = new ArrayList<>();
        for (Class<?> group : TESTS) {
            List<Method> ofGroup = new ArrayList<>(Arrays.asList(group.getDeclaredMethods()));
            ofGroup.removeIf(method -> method.getAnnotation(Holds.class) == null);
            ofGroup.sort(Comparator.comparing(Method::getName));
            tests.addAll(ofGroup);
        }
        for (Method test : tests) {
            run(test);
        }
        if (Files.exists(DOCUMENT)) {
            compare(tests, Files.readString(DOCUMENT));
        } else {
            System.out.println("no " + DOCUMENT + ": the sentences are not looked up");
        }
        System.out.println(tests.size() + " tests of edges");
        Due.end();
    }

    private static void run(Method test) {
        Holds holds = test.getAnnotation(Holds.class);
        int wrong = Due.wrong();
        int asked = Due.asked();
        try {
            test.invoke(null);
        } catch (InvocationTargetException | IllegalAccessException thrown) {
            Due.due(test.getName() + " threw " + thrown.getCause(), 1, 0);
        }
        Due.due(test.getName() + " asks nothing", Due.asked() > asked ? 0 : 1, 0);
        if (Due.wrong() > wrong) {
            System.out.println("  in " + test.getName() + ": promise " + holds.promise() + ": " + holds.sentence());
        }
    }

    /** The document's parts by promise, 0 being all that stands before the first one. */
    private static String[] parts(String document) {
        String text = document.replaceAll("(?s)## The public face.*?## Terms", "").replaceAll("```(text)?", "")
            .replaceAll("\\s+", " ");
        String[] parts = new String[PROMISES + 1];
        int from = text.indexOf("An object is used");
        for (int promise = 0; promise <= PROMISES; promise++) {
            String next = promise < PROMISES ? "## Promise " + (promise + 1) + ": " : "## Not promised";
            int to = text.indexOf(next, from);
            int signature = promise == 0 ? from : text.indexOf("`: ", from) + 3;
            parts[promise] = text.substring(signature, to);
            from = to + next.length();
        }
        return parts;
    }

    private static void compare(List<Method> tests, String document) {
        String[] parts = parts(document);
        boolean[][] named = new boolean[PROMISES + 1][];
        for (int promise = 0; promise <= PROMISES; promise++) {
            named[promise] = new boolean[parts[promise].length()];
        }
        for (Method test : tests) {
            Holds holds = test.getAnnotation(Holds.class);
            int found = parts[holds.promise()].indexOf(holds.sentence());
            int in = found >= 0 ? holds.promise() : 0;
            int at = found >= 0 ? found : parts[0].indexOf(holds.sentence());
            Due.due(test.getName() + " names no sentence of the document: " + holds.sentence(), at >= 0 ? 0 : 1, 0);
            if (at >= 0) {
                Arrays.fill(named[in], at, at + holds.sentence().length(), true);
            }
        }
        for (int promise = 0; promise <= PROMISES; promise++) {
            everyPieceIsNamed(promise, parts[promise], named[promise]);
        }
    }

    private static void everyPieceIsNamed(int promise, String part, boolean[] named) {
        Matcher piece = Pattern.compile("\\S.*?(?:[.;:](?= |$)|$)").matcher(part);
        while (piece.find()) {
            boolean isNamed = HEADWORDS.matcher(piece.group()).matches();
            for (int at = piece.start(); at < piece.end(); at++) {
                isNamed |= named[at];
            }
            Due.due("promise " + promise + ": no test names " + piece.group(), isNamed ? 0 : 1, 0);
        }
    }
}
