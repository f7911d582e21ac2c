import java.io.IOException;
import java.lang.reflect.Method;
import java.nio.file.Files;
import java.nio.file.Path;
import java.util.List;
import java.util.Set;
import java.util.TreeSet;

/**
 * sentences.txt quotes the document from its first line to its last, each sentence with its tests:
 * nothing of the document is left out there, the tests are there, and none of them is forgotten.
 */
public final class DocumentTest {
    private static final Path DOCUMENT = Path.of("../shared/DOC.md");
    private static final Path SENTENCES = Path.of("src/test/sentences.txt");
    private static final List<Class<?>> CLASSES = List.of(SentencesTest.class, EdgesOfElementsTest.class,
        EdgesOfChangesTest.class, EdgesOfQuestionsTest.class, EdgesOfPadTest.class, EdgesOfHistoryTest.class,
        OrderOfErrorsTest.class, NothingChangesTest.class, PromisesTest.class, FaceTest.class, ModelTest.class);
    private static final int SHOWN = 60;

    private final Checks checks = new Checks("DocumentTest");
    private final String document;
    private final Set<String> named = new TreeSet<>();
    private int at;

    private DocumentTest(String document) {
        this.document = document;
    }

    public static void main(String[] arguments) throws IOException {
        DocumentTest test = new DocumentTest(Files.readString(DOCUMENT).replaceAll("\\s+", " ").trim());
        List<String> lines = Files.readAllLines(SENTENCES);
        int line = 0;
        while (line < lines.size() && !lines.get(line).startsWith("> ")) {
            line++;
        }
        while (line < lines.size() && !test.checks.anyWrong()) {
            line = test.sentence(lines, line);
        }
        test.checks.due("what of the document is not quoted behind " + test.shown(), test.document.length() - test.at, 0);
        test.noneForgotten();
        test.checks.finish();
    }

    private String shown() {
        return document.substring(at, Math.min(at + SHOWN, document.length()));
    }

    /** Reads the quotes and the tests that stand together from a line on; returns the line behind them. */
    private int sentence(List<String> lines, int from) {
        int line = from;
        while (line < lines.size() && lines.get(line).startsWith("> ")) {
            quote(line + 1, lines.get(line).substring(2).replaceAll("\\s+", " ").trim());
            line++;
        }
        int told = 0;
        while (line < lines.size() && !lines.get(line).startsWith("> ")) {
            String text = lines.get(line);
            if (text.startsWith("- ")) {
                told++;
            } else if (!text.isBlank()) {
                told++;
                for (String test : text.split(" ")) {
                    checks.due("line " + (line + 1) + ": " + test + " is a test", isTest(test) ? 1 : 0, 1);
                    named.add(test);
                }
            }
            line++;
        }
        checks.due("line " + line + ": a test is named, or why there is none", told > 0 ? 1 : 0, 1);
        return line;
    }

    private void quote(int line, String text) {
        boolean quoted = document.startsWith(text, at);
        checks.due("line " + line + ": " + text + " (the document goes on with " + shown() + ")", quoted ? 1 : 0, 1);
        at += quoted ? text.length() : 0;
        at += at < document.length() && document.charAt(at) == ' ' ? 1 : 0;
    }

    private static boolean isTest(String name) {
        boolean found = false;
        for (Class<?> each : CLASSES) {
            found |= name.equals(each.getName());
            for (Method method : each.getDeclaredMethods()) {
                found |= name.equals(each.getName() + "." + method.getName()) && method.getParameterCount() == 0;
            }
        }
        return found;
    }

    private void noneForgotten() {
        for (Class<?> each : CLASSES) {
            for (Method test : each.getDeclaredMethods()) {
                String name = each.getName() + "." + test.getName();
                if (test.isAnnotationPresent(Sentence.class)) {
                    checks.due(name + " is named in sentences.txt", named.contains(name) ? 1 : 0, 1);
                }
            }
        }
    }
}
