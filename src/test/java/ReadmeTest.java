import java.lang.reflect.Field;
import java.net.URL;
import java.net.URLClassLoader;
import java.nio.file.Files;
import java.nio.file.Path;
import java.util.ArrayList;
import java.util.List;
import java.util.regex.Matcher;
import java.util.regex.Pattern;

/** The examples of README.md: they compile, and each call answers what stands behind it. */
public final class ReadmeTest {
    private static final Path README = Path.of("README.md");
    private static final Pattern CALL = Pattern.compile("(desk\\.\\w+\\(.*\\)); +// (-?\\d+): .+");
    private static final Pattern BLOCK = Pattern.compile("(?s)```java\n(.*?)```");

    private ReadmeTest() {
    }

    public static void main(String[] arguments) throws Exception {
        Checks checks = new Checks("ReadmeTest");
        String readme = Files.readString(README);
        constants(checks, readme);
        List<String> blocks = blocks(readme);
        checks.due("examples", blocks.size(), 2);
        int calls = 0;
        StringBuilder made = new StringBuilder("public final class Example {\n" + blocks.get(1)
                + "public static String told() {\nStringBuilder told = new StringBuilder();\n");
        for (String line : blocks.get(0).split("\n")) {
            Matcher call = CALL.matcher(line);
            if (call.matches()) {
                calls++;
                made.append("if (").append(call.group(1)).append(" != ").append(call.group(2)).append(") told.append(\"")
                        .append(line).append("\\n\");\n");
            } else {
                checks.due("a line with its answer: " + line, line.startsWith("PeirceDesk desk = new PeirceDesk();") ? 1 : 0, 1);
                made.append(line).append('\n');
            }
        }
        made.append("if (packed(\"G:p(A\") != 0x473a702841L || packed(\"v\") != 'v') told.append(\"packed\");\nreturn told.toString();\n}\n}\n");
        checks.due("calls of the example are more than 20", Math.min(calls, 20), 20);
        String told = run(made.toString());
        if (!told.isEmpty()) {
            System.out.println("README.md is wrong here:\n" + told);
        }
        checks.due("the example answers as it says", told.isEmpty() ? 1 : 0, 1);
        checks.finish();
    }

    /** The table of the codes has a row for each constant, with its number. */
    private static void constants(Checks checks, String readme) throws IllegalAccessException {
        for (Field field : PeirceDesk.class.getFields()) {
            String row = "| `" + field.getName() + "` | " + field.getInt(null) + " | ";
            checks.due("a row " + row, readme.contains(row) ? 1 : 0, 1);
        }
    }

    private static List<String> blocks(String text) {
        List<String> blocks = new ArrayList<>();
        Matcher block = BLOCK.matcher(text);
        while (block.find()) {
            blocks.add(block.group(1));
        }
        return blocks;
    }

    /** Compiles the example beside the desk that is under test, and returns what it tells. */
    private static String run(String code) throws Exception {
        Path folder = Files.createTempDirectory("readme");
        try {
            Path file = folder.resolve("Example.java");
            Files.writeString(file, code);
            String faults = Compiling.compile(List.of(file), folder, System.getProperty("java.class.path"));
            if (!faults.isEmpty()) {
                return faults;
            }
            try (URLClassLoader loader = new URLClassLoader(new URL[] {folder.toUri().toURL()})) {
                return (String) loader.loadClass("Example").getMethod("told").invoke(null);
            }
        } finally {
            Compiling.remove(folder);
        }
    }
}
