import java.io.IOException;
import java.io.PrintWriter;
import java.io.StringWriter;
import java.nio.file.Files;
import java.nio.file.Path;
import java.util.Comparator;
import java.util.List;
import java.util.stream.Stream;
import javax.tools.JavaCompiler;
import javax.tools.StandardJavaFileManager;
import javax.tools.ToolProvider;

/** Compiles files into a folder of their own. */
final class Compiling {
    private Compiling() {
    }

    /** Returns what the compiler tells if it fails, and nothing if not. */
    static String compile(List<Path> files, Path folder, String classPath) throws IOException {
        JavaCompiler compiler = ToolProvider.getSystemJavaCompiler();
        StringWriter faults = new StringWriter();
        try (StandardJavaFileManager manager = compiler.getStandardFileManager(null, null, null)) {
            List<String> options = List.of("-nowarn", "-encoding", "UTF-8", "-d", folder.toString(), "-cp", classPath);
            boolean done = compiler.getTask(new PrintWriter(faults), manager, null, options, null,
                    manager.getJavaFileObjectsFromPaths(files)).call();
            return done ? "" : "it does not compile: " + faults;
        }
    }

    static void remove(Path folder) throws IOException {
        try (Stream<Path> inside = Files.walk(folder)) {
            for (Path each : inside.sorted(Comparator.reverseOrder()).toList()) {
                Files.delete(each);
            }
        }
    }
}
