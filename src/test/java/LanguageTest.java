import java.io.IOException;
import java.nio.file.Files;
import java.nio.file.Path;
import java.util.HashSet;
import java.util.Map;
import java.util.Set;
import java.util.TreeMap;
import java.util.regex.Matcher;
import java.util.regex.Pattern;

/**
 * Words and signs that LANGUAGE.md rules out, long methods, recursion, deep calls, and objects made
 * outside constructors.
 */
public final class LanguageTest {
    private static final Path SOURCE = Path.of("src/main/java/PeirceDesk.java");
    private static final int LONGEST = 60, DEEPEST = 8;

    private LanguageTest() {
    }

    public static void main(String[] arguments) throws IOException {
        Checks checks = new Checks("LanguageTest");
        String source = Files.readString(SOURCE);
        for (int k = 0; k < source.length(); k++) {
            char sign = source.charAt(k);
            if (sign != '\n' && (sign < 32 || sign > 126)) {
                checks.due("sign " + k + " of the source", sign, ' ');
            }
        }
        String code = source.replaceAll("(?s)/\\*.*?\\*/", "").replaceAll("//[^\n]*", "");
        none(checks, code, "\\b(throw|throws|try|catch|finally|assert|synchronized|import|package|extends|implements"
                + "|protected|instanceof|volatile|transient|native|double|float|String|Object|System\\.(?!arraycopy)"
                + "|Thread|Random|equals|hashCode|toString)\\b|->|::|\"|@|\\bvar\\b|\\bstatic\\s*\\{|\\.\\.\\.");
        Map<String, String> bodies = methods(checks, code);
        for (String name : bodies.keySet()) {
            int depth = depth(checks, bodies, name, new HashSet<>());
            checks.due(name + " calls at most " + DEEPEST + " deep", Math.max(depth, DEEPEST), DEEPEST);
        }
        checks.finish();
    }

    private static void none(Checks checks, String code, String pattern) {
        Matcher matcher = Pattern.compile(pattern).matcher(code);
        int found = 0;
        while (matcher.find()) {
            found++;
            System.out.println("the source uses " + matcher.group());
        }
        checks.due("words and signs that are ruled out", found, 0);
    }

    /** How many methods stand open at once, this one among them; there is no recursion. */
    private static int depth(Checks checks, Map<String, String> bodies, String name, Set<String> open) {
        if (!open.add(name)) {
            checks.due(name + " comes to call itself", 1, 0);
            return 0;
        }
        int deepest = 0;
        Matcher call = Pattern.compile("\\b(\\w+)\\(").matcher(bodies.get(name));
        while (call.find()) {
            if (bodies.containsKey(call.group(1))) {
                deepest = Math.max(deepest, depth(checks, bodies, call.group(1), open));
            }
        }
        open.remove(name);
        return deepest + 1;
    }

    /** Looks at each method and constructor: its length, and whether it makes objects; returns what
        stands in those of each name. */
    private static Map<String, String> methods(Checks checks, String code) {
        Map<String, String> bodies = new TreeMap<>();
        Matcher head = Pattern.compile("(?m)^( {4}| {8})((?:public |private |static |final )*)([\\w\\[\\]]+ )?(\\w+)\\([^)]*\\) \\{$")
                .matcher(code);
        while (head.find()) {
            int end = code.indexOf("\n" + head.group(1) + "}", head.end());
            String body = code.substring(head.end(), end);
            boolean constructor = Character.isUpperCase(head.group(4).charAt(0));
            checks.due(head.group(4) + " has at most " + LONGEST + " lines", Math.max(body.lines().count(), LONGEST), LONGEST);
            checks.due(head.group(4) + " makes objects", !constructor && body.contains("new ") ? 1 : 0, 0);
            bodies.merge(head.group(4), body, String::concat);
        }
        return bodies;
    }
}
