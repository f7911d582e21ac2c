import java.io.ByteArrayOutputStream;
import java.io.IOException;
import java.io.OutputStream;
import java.lang.reflect.Method;
import java.net.URI;
import java.nio.file.Files;
import java.nio.file.Path;
import java.util.ArrayList;
import java.util.HashMap;
import java.util.List;
import java.util.Map;
import java.util.Set;
import java.util.TreeSet;
import javax.tools.ForwardingJavaFileManager;
import javax.tools.JavaCompiler;
import javax.tools.JavaFileManager;
import javax.tools.JavaFileObject;
import javax.tools.SimpleJavaFileObject;
import javax.tools.ToolProvider;

/**
 * Tests the tests: makes each change of broken.txt to the program, and looks whether the tests that
 * are named with it fail then. Run by hand (README.md), as the changes hold the program's own lines.
 */
public final class Broken {
    private static final Path SOURCE = Path.of("src/main/java/PeirceDesk.java");
    private static final Path CHANGES = Path.of("src/test/broken.txt");
    private static final String[] CLASSES = {"SentencesTest", "EdgesOfElementsTest", "EdgesOfChangesTest", "EdgesOfQuestionsTest",
        "EdgesOfPadTest", "EdgesOfHistoryTest", "OrderOfErrorsTest", "NothingChangesTest"};

    private final List<String> source;
    private final Path compiled;
    private final Set<String> unbroken = new TreeSet<>();
    private int made;
    private int wrong;

    private Broken(List<String> source, Path compiled) {
        this.source = source;
        this.compiled = compiled;
    }

    /** Takes the folder in which the tests were compiled. */
    public static void main(String[] arguments) throws Exception {
        Broken broken = new Broken(Files.readAllLines(SOURCE), Path.of(arguments[0]));
        broken.nameTests();
        broken.go(Files.readAllLines(CHANGES));
        for (String test : broken.unbroken) {
            broken.tell("no change breaks the sentence of " + test);
        }
        System.out.println(broken.made + " changes, " + broken.wrong + " wrong");
        System.exit(broken.wrong == 0 && broken.made > 0 ? 0 : 1);
    }

    private void nameTests() throws Exception {
        Loader loader = new Loader(compile(String.join("\n", source)));
        for (String each : CLASSES) {
            for (Object test : (List<?>) edges(loader, "testsOf", Class.class).invoke(null, loader.loadClass(each))) {
                String name = each + "." + ((Method) test).getName();
                unbroken.add(name);
                if (fails(loader, name)) {
                    tell(name + " fails without a change");
                }
            }
        }
    }

    private void go(List<String> lines) throws Exception {
        int start = 0;
        while (start < lines.size()) {
            int end = start + 1;
            while (end < lines.size() && !lines.get(end).startsWith("= ")) {
                end++;
            }
            if (lines.get(start).startsWith("= ")) {
                change(start + 1, lines.get(start).substring(2).split(" "), lines.subList(start + 1, end));
            }
            start = end;
        }
    }

    private void change(int line, String[] tests, List<String> edits) throws Exception {
        List<String> changed = new ArrayList<>(source);
        made++;
        if (!edit(changed, edits)) {
            tell("line " + line + ": the lines to be taken out were not found");
            return;
        }
        Map<String, byte[]> classes = compile(String.join("\n", changed));
        if (classes == null) {
            tell("line " + line + ": the changed program does not compile");
            return;
        }
        for (String test : tests) {
            if (!fails(new Loader(classes), test)) {
                tell("line " + line + ": " + test + " does not fail");
            }
            unbroken.remove(test);
        }
    }

    private void tell(String what) {
        wrong++;
        System.out.println(what);
    }

    // ---- changing the program

    private static boolean edit(List<String> code, List<String> edits) {
        int from = 0;
        int next = 0;
        while (next < edits.size()) {
            String edit = edits.get(next);
            if (edit.startsWith("@")) {
                from = lineWith(code, edit.substring(1));
                next++;
            } else if (edit.startsWith("-")) {
                int end = next;
                while (end < edits.size() && edits.get(end).startsWith("-")) {
                    end++;
                }
                int at = from < 0 ? -1 : find(code, from, edits.subList(next, end));
                if (at < 0) {
                    return false;
                }
                code.subList(at, at + end - next).clear();
                next = end;
                while (next < edits.size() && edits.get(next).startsWith("+")) {
                    code.add(at++, edits.get(next++).substring(1));
                }
                from = 0;
            } else {
                next++;
            }
        }
        return true;
    }

    private static int lineWith(List<String> code, String text) {
        for (int line = 0; line < code.size(); line++) {
            if (code.get(line).contains(text)) {
                return line;
            }
        }
        return -1;
    }

    private static int find(List<String> code, int from, List<String> taken) {
        for (int at = from; at + taken.size() <= code.size(); at++) {
            boolean same = true;
            for (int k = 0; k < taken.size(); k++) {
                same &= code.get(at + k).trim().equals(taken.get(k).substring(1).trim());
            }
            if (same) {
                return at;
            }
        }
        return -1;
    }

    // ---- compiling and running it

    private static Map<String, byte[]> compile(String code) {
        JavaCompiler compiler = ToolProvider.getSystemJavaCompiler();
        Memory memory = new Memory(compiler.getStandardFileManager(told -> { }, null, null));
        JavaFileObject unit = new SimpleJavaFileObject(URI.create("string:///PeirceDesk.java"), JavaFileObject.Kind.SOURCE) {
            @Override
            public CharSequence getCharContent(boolean ignoring) {
                return code;
            }
        };
        List<String> options = List.of("-proc:none");
        boolean done = compiler.getTask(null, memory, told -> { }, options, null, List.of(unit)).call();
        Map<String, byte[]> classes = new HashMap<>();
        memory.made.forEach((name, bytes) -> classes.put(name, bytes.toByteArray()));
        return done ? classes : null;
    }

    private static Method edges(Loader loader, String name, Class<?>... parameters) throws Exception {
        Method method = loader.loadClass("Edges").getDeclaredMethod(name, parameters);
        method.setAccessible(true);
        return method;
    }

    private boolean fails(Loader loader, String test) throws Exception {
        String[] parts = test.split("\\.");
        Method failures = edges(loader, "failures", Class.class, String.class, boolean.class);
        return (Integer) failures.invoke(null, loader.loadClass(parts[0]), parts[1], false) > 0;
    }

    /** Keeps what is compiled. */
    private static final class Memory extends ForwardingJavaFileManager<JavaFileManager> {
        private final Map<String, ByteArrayOutputStream> made = new HashMap<>();

        Memory(JavaFileManager files) {
            super(files);
        }

        @Override
        public JavaFileObject getJavaFileForOutput(Location where, String name, JavaFileObject.Kind kind, javax.tools.FileObject beside) {
            return new SimpleJavaFileObject(URI.create("memory:///" + name + ".class"), kind) {
                @Override
                public OutputStream openOutputStream() {
                    return made.computeIfAbsent(name, fresh -> new ByteArrayOutputStream());
                }
            };
        }
    }

    /** Takes the program from memory and the tests from their folder. */
    private final class Loader extends ClassLoader {
        private final Map<String, byte[]> program;

        Loader(Map<String, byte[]> program) {
            super(ClassLoader.getPlatformClassLoader());
            this.program = program;
        }

        @Override
        protected Class<?> findClass(String name) throws ClassNotFoundException {
            try {
                byte[] bytes = program.containsKey(name) ? program.get(name) : Files.readAllBytes(compiled.resolve(name + ".class"));
                return defineClass(name, bytes, 0, bytes.length);
            } catch (IOException missing) {
                throw new ClassNotFoundException(name, missing);
            }
        }
    }
}
