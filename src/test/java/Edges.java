import java.lang.reflect.InvocationTargetException;
import java.lang.reflect.Method;
import java.util.ArrayList;
import java.util.Comparator;
import java.util.HashSet;
import java.util.List;
import java.util.Set;

/**
 * What the tests of the boundary sentences share. Each test is a method with a Sentence, and is run
 * on an object of its own class made for it alone.
 */
abstract class Edges {
    static final int NO_SUCH = -1, BAD_VALUE = -2, BAD_TEXT = -3, TOO_MANY = -4, NOT_POSSIBLE = -5, NONE = -6;
    static final int LEAST = Integer.MIN_VALUE, MOST = Integer.MAX_VALUE;
    static final int[] SIZES = {2, 3};
    static final int[] MODULI = {3, 5, 7, 11};

    private String sentence = "";
    private int made;
    private int wrong;

    /** A call with one argument that is varied. */
    interface Call {
        long with(int argument);
    }

    static void runAll(Class<? extends Edges> tests) {
        int failed = failures(tests, "", true);
        System.out.println(tests.getSimpleName() + ": " + testsOf(tests).size() + " sentences, " + failed + " failed");
        System.exit(failed == 0 ? 0 : 1);
    }

    /** How many tests of a class fail; only the one of that name is run if it is not empty. */
    static int failures(Class<? extends Edges> tests, String only, boolean aloud) {
        int failed = 0;
        Set<String> sentences = new HashSet<>();
        for (Method test : testsOf(tests)) {
            if (only.isEmpty() || only.equals(test.getName())) {
                failed += fails(tests, test, aloud) ? 1 : 0;
                if (!sentences.add(test.getAnnotation(Sentence.class).value())) {
                    throw new IllegalArgumentException("a second test of the sentence of " + test);
                }
            }
        }
        if (sentences.isEmpty()) {
            throw new IllegalArgumentException("no test " + only + " in " + tests);
        }
        return failed;
    }

    static List<Method> testsOf(Class<? extends Edges> tests) {
        List<Method> found = new ArrayList<>();
        for (Method method : tests.getDeclaredMethods()) {
            if (method.isAnnotationPresent(Sentence.class)) {
                found.add(method);
            }
        }
        found.sort(Comparator.comparing(Method::getName));
        return found;
    }

    private static boolean fails(Class<? extends Edges> tests, Method test, boolean aloud) {
        try {
            Edges edges = tests.getDeclaredConstructor().newInstance();
            edges.sentence = aloud ? test.getAnnotation(Sentence.class).value() : "";
            test.invoke(edges);
            return edges.wrong > 0 || edges.made == 0;
        } catch (InvocationTargetException thrown) {
            if (aloud) {
                System.out.println(test.getName() + " threw " + thrown.getCause());
            }
            return true;
        } catch (ReflectiveOperationException unable) {
            throw new IllegalStateException(unable);
        }
    }

    // ---- what is due

    void due(String call, long got, long want) {
        made++;
        if (got != want) {
            wrong++;
            tell(call + " answered " + got + ", due is " + want);
        }
    }

    void dueText(String call, String got, String want) {
        made++;
        if (!got.equals(want)) {
            wrong++;
            tell(call + " tells\n  " + got + "\ndue is\n  " + want);
        }
    }

    private void tell(String what) {
        if (!sentence.isEmpty()) {
            System.out.println("[" + sentence + "] " + what);
        }
    }

    /** The call answers the same for each of these arguments. */
    void each(String call, Call asked, long want, int... arguments) {
        for (int argument : arguments) {
            due(call + " with " + argument, asked.with(argument), want);
        }
    }

    /** From least to greatest no error is answered; the first ones outside are refused, and far ones too. */
    void range(String call, Call asked, int least, int greatest, int error) {
        for (int argument = least; argument <= greatest; argument++) {
            due(call + " with " + argument + " is no error", asked.with(argument) >= 0 ? 1 : 0, 1);
        }
        each(call, asked, error, least - 1, greatest + 1, least - 2, greatest + 2, LEAST, MOST);
    }

    /** The numbers of an element, row by row from the diagonal on. */
    void element(String what, PeirceDesk desk, int register, int... upper) {
        int size = desk.count(0);
        int next = 0;
        due(what + ": numbers of register " + register, size * (size + 1) / 2, upper.length);
        for (int row = 0; row < size && next < upper.length; row++) {
            for (int column = row; column < size && next < upper.length; column++) {
                String place = what + ": register " + register + " at " + row + ", " + column;
                due(place, desk.entry(register, row, column), upper[next]);
                due(place + " exchanged", desk.entry(register, column, row), upper[next]);
                next++;
            }
        }
    }

    // ---- desks

    static PeirceDesk desk(int size, int modulus) {
        PeirceDesk desk = new PeirceDesk();
        desk.begin(size, modulus);
        return desk;
    }

    /** A desk of the size 2 and the modulus 5: A = 1 2 / 2 3, B = 1 0 / 0 0, its own square,
        C = 1 2 / 2 4, without an inverse, D = 0 1 / 1 0, and E to H = 0. */
    static PeirceDesk filled() {
        PeirceDesk desk = new PeirceDesk();
        Checks.write(desk, 0, 1, 2, 3);
        Checks.write(desk, 1, 1, 0, 0);
        Checks.write(desk, 2, 1, 2, 4);
        Checks.write(desk, 3, 0, 1, 0);
        return desk;
    }

    /** A desk whose registers hold the numbers 1 to 8 at the place 0, 0, by a modulus of 11. */
    static PeirceDesk numbered(int size) {
        PeirceDesk desk = desk(size, 11);
        for (int register = 0; register < 8; register++) {
            desk.set(register, 0, 0, register + 1);
        }
        return desk;
    }

    /** Writes an element that has these numbers where row and column are the same, and 0 elsewhere. */
    static void diagonal(PeirceDesk desk, int register, int... numbers) {
        for (int place = 0; place < numbers.length; place++) {
            desk.set(register, place, place, numbers[place]);
        }
    }

    static PeirceDesk typed(PeirceDesk desk, String text) {
        desk.wipe();
        Checks.type(desk, text);
        return desk;
    }

    static int run(PeirceDesk desk, String text) {
        return typed(desk, text).run();
    }

    /** All that can be read of the registers, the base and the unit, and what count tells; at the
        size 3 it takes 96 calls. */
    static String state(PeirceDesk desk) {
        StringBuilder state = new StringBuilder();
        int size = desk.count(0);
        state.append(size).append(' ');
        for (int what = 1; what < 6; what++) {
            state.append(desk.count(what)).append(' ');
        }
        for (int register = 0; register < 10; register++) {
            state.append('|');
            for (int row = 0; row < size; row++) {
                for (int column = 0; column < size; column++) {
                    state.append(desk.entry(register, row, column)).append(',');
                }
            }
        }
        return state.toString();
    }
}
