import java.io.IOException;
import java.nio.file.Files;
import java.nio.file.Path;
import java.util.ArrayList;
import java.util.List;
import java.util.regex.Matcher;
import java.util.regex.Pattern;
import java.util.stream.Stream;

/**
 * No test uses an object for more than 512 calls, as what it answers then is free: runs the other
 * tests once more, with a desk that throws when it is called once too often.
 */
public final class CallsTest {
    private static final Path SOURCE = Path.of("src/main/java/PeirceDesk.java");
    private static final List<Path> TESTS = List.of(Path.of("src/test/java"), Path.of("../shared/tests"));
    /* Not run here: this test itself, and a tool that is no test. */
    private static final List<String> OTHERS = List.of("CallsTest", "Broken");
    private static final int METHODS = 21, CALLS = 512;

    private CallsTest() {
    }

    public static void main(String[] arguments) throws IOException, InterruptedException {
        Checks checks = new Checks("CallsTest");
        Path folder = Files.createTempDirectory("calls");
        try {
            Path counting = folder.resolve("PeirceDesk.java");
            Files.writeString(counting, counting(checks, Files.readString(SOURCE)));
            List<Path> files = new ArrayList<>(List.of(counting));
            for (Path tests : TESTS) {
                files.addAll(javaFiles(tests));
            }
            String faults = Compiling.compile(files, folder, folder.toString());
            checks.due("the tests compile with a desk that counts its calls " + faults, faults.isEmpty() ? 1 : 0, 1);
            for (Path file : files) {
                String name = file.getFileName().toString().replace(".java", "");
                if (!OTHERS.contains(name) && Files.readString(file).contains("static void main(")) {
                    checks.due(name + " with a desk that counts its calls ended with", run(name, folder), 0);
                }
            }
        } finally {
            Compiling.remove(folder);
        }
        checks.finish();
    }

    /** The program, with a line in each public method that counts its calls. */
    private static String counting(Checks checks, String source) {
        Matcher method = Pattern.compile("(?m)^    public int \\w+\\([^)]*\\) \\{\n").matcher(source);
        StringBuilder counting = new StringBuilder();
        int found = 0;
        while (method.find()) {
            found++;
            method.appendReplacement(counting, "$0if (++callsMade > " + CALLS + ") { throw new IllegalStateException(\"call \" + callsMade); }\n");
        }
        method.appendTail(counting);
        checks.due("methods that count their calls", found, METHODS);
        return counting.insert(counting.lastIndexOf("}"), "private int callsMade;\n").toString();
    }

    private static List<Path> javaFiles(Path folder) throws IOException {
        try (Stream<Path> inside = Files.list(folder)) {
            return inside.filter(file -> file.toString().endsWith(".java")).sorted().toList();
        }
    }

    private static int run(String name, Path folder) throws IOException, InterruptedException {
        String java = Path.of(System.getProperty("java.home"), "bin", "java").toString();
        Path told = folder.resolve(name + ".told");
        Process process = new ProcessBuilder(java, "-cp", folder.toString(), name).redirectErrorStream(true)
                .redirectOutput(told.toFile()).start();
        process.getOutputStream().close();
        int code = process.waitFor();
        if (code != 0) {
            System.out.println(Files.readString(told));
        }
        return code;
    }
}
