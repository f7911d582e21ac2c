import java.io.IOException;
import java.nio.file.Files;
import java.nio.file.Path;
import java.util.regex.Matcher;
import java.util.regex.Pattern;

/** Words and signs that LANGUAGE.md rules out, long methods, and objects made outside constructors. */
public final class LanguageTest {
    private static final Path SOURCE = Path.of("src/main/java/PeirceDesk.java");
    private static final int LONGEST = 60;

    private LanguageTest() {
    }

    public static void main(String[] arguments) throws IOException {
        Checks checks = new Checks("LanguageTest");
        String source = Files.readString(SOURCE);
        for (int k = 0; k < source.length(); k++) {
            char sign = source.charAt(k);
            if (sign != '\n' && (sign < 32 || sign > 126)) {
                checks.due("sign " + k + " of the source", sign, ' ');
            }
        }
        String code = source.replaceAll("(?s)/\\*.*?\\*/", "").replaceAll("//[^\n]*", "");
        none(checks, code, "\\b(throw|throws|try|catch|finally|assert|synchronized|import|package|extends|implements"
                + "|protected|instanceof|volatile|transient|native|double|float|String|Object|System\\.(?!arraycopy)"
                + "|Thread|Random|equals|hashCode|toString)\\b|->|::|\"|@|\\bvar\\b|\\bstatic\\s*\\{|\\.\\.\\.");
        methods(checks, code);
        checks.finish();
    }

    private static void none(Checks checks, String code, String pattern) {
        Matcher matcher = Pattern.compile(pattern).matcher(code);
        int found = 0;
        while (matcher.find()) {
            found++;
            System.out.println("the source uses " + matcher.group());
        }
        checks.due("words and signs that are ruled out", found, 0);
    }

    /** Looks at each method and constructor: its length, and whether it makes objects. */
    private static void methods(Checks checks, String code) {
        Matcher head = Pattern.compile("(?m)^( {4}| {8})((?:public |private |static |final )*)([\\w\\[\\]]+ )?(\\w+)\\([^)]*\\) \\{$")
                .matcher(code);
        while (head.find()) {
            int end = code.indexOf("\n" + head.group(1) + "}", head.end());
            String body = code.substring(head.end(), end);
            boolean constructor = Character.isUpperCase(head.group(4).charAt(0));
            checks.due(head.group(4) + " has at most " + LONGEST + " lines", Math.max(body.lines().count(), LONGEST), LONGEST);
            checks.due(head.group(4) + " makes objects", !constructor && body.contains("new ") ? 1 : 0, 0);
        }
    }
}
