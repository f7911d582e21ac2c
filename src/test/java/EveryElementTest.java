import java.util.Arrays;
import java.util.List;

/**
 * Every element modulo 3: at the size 2 by every base, alone and with every other element, and at the
 * size 3 by some bases; and how many are of each kind by every base, modulo 3, 5 and 7. What the desk
 * tells is what the model of the document tells.
 */
public final class EveryElementTest {
    private static final int NONE = PeirceDesk.NONE;
    /* An object is used for at most 512 calls; a pair takes fewer than 50 of them. */
    private static final int CALLS_OF_ONE_DESK = 400;
    private static final int[][] BASES_OF_THREE = {{1, 0, 0, 1, 0, 1}, {0, 1, 0, 0, 0, 1}, {2, 1, 0, 0, 1, 2}, {1, 1, 1, 2, 0, 1}};

    private final Checks checks;
    private final Model model = new Model();
    private PeirceDesk desk;
    private int[][] first;
    private int calls;

    private EveryElementTest(Checks checks, int size, int modulus, int[][] base) {
        this.checks = checks;
        model.now.size = size;
        model.now.p = modulus;
        model.now.base = base;
        model.now.registers = new int[8][size][size];
    }

    public static void main(String[] arguments) {
        Checks checks = new Checks("EveryElementTest");
        pairsOfTwo(checks);
        for (int[] base : BASES_OF_THREE) {
            singlesOfThree(checks, base);
        }
        for (int modulus : new int[] {3, 5, 7}) {
            kindsOfTwo(checks, modulus);
        }
        checks.finish();
    }

    private static void pairsOfTwo(Checks checks) {
        List<int[][]> all = new EveryElementTest(checks, 2, 3, Model.identity(2)).model.all();
        int bases = 0;
        for (int[][] base : all) {
            EveryElementTest test = new EveryElementTest(checks, 2, 3, base);
            if (test.model.determinant(base) != 0) {
                bases++;
                for (int[][] a : all) {
                    test.start(a);
                    test.alone();
                    for (int[][] b : all) {
                        test.pair(b);
                    }
                }
            }
        }
        checks.due("bases of the size 2", bases, 18);
    }

    private static void singlesOfThree(Checks checks, int[] upper) {
        int[][] base = {{upper[0], upper[1], upper[2]}, {upper[1], upper[3], upper[4]}, {upper[2], upper[4], upper[5]}};
        EveryElementTest test = new EveryElementTest(checks, 3, 3, base);
        checks.due("the determinant of a base is not 0", test.model.determinant(base) != 0 ? 1 : 0, 1);
        for (int[][] a : test.model.all()) {
            test.start(a);
            test.alone();
        }
    }

    private static void kindsOfTwo(Checks checks, int modulus) {
        for (int[][] base : new EveryElementTest(checks, 2, modulus, Model.identity(2)).model.all()) {
            EveryElementTest test = new EveryElementTest(checks, 2, modulus, base);
            if (test.model.determinant(base) != 0) {
                test.start(base);
                for (int kind = 0; kind < 4; kind++) {
                    test.due("howMany(" + kind + ") modulo " + modulus, test.desk.howMany(kind), test.model.howMany(kind));
                }
                test.compared();
            }
        }
    }

    // ---- desks

    /** A new desk, with the base and an element in A. */
    private void start(int[][] a) {
        desk = new PeirceDesk();
        desk.begin(model.now.size, model.now.p);
        write(7, model.now.base);
        desk.base(7);
        first = a;
        write(0, a);
        calls = 20;
    }

    private void write(int register, int[][] element) {
        for (int row = 0; row < element.length; row++) {
            for (int column = row; column < element.length; column++) {
                desk.set(register, row, column, element[row][column]);
                calls++;
            }
        }
    }

    private String told(String call) {
        return call + " of A = " + Arrays.deepToString(first) + " by " + Arrays.deepToString(model.now.base);
    }

    /** The answers are too many to be told of one by one: those of an element or of a pair count as one. */
    private void compared() {
        checks.due("what was compared", 1, 1);
    }

    private void due(String call, int got, int want) {
        calls++;
        if (got != want) {
            checks.due(told(call), got, want);
        }
    }

    private void element(String call, int register, int[][] want) {
        for (int row = 0; row < want.length; row++) {
            for (int column = 0; column < want.length; column++) {
                due(call + " at " + row + ", " + column, desk.entry(register, row, column), want[row][column]);
            }
        }
    }

    /** Runs a formula for the register H; if the element is null, it has to stop at the place 2. */
    private void result(String formula, int[][] want) {
        calls += 5;
        Checks.type(desk, "H:" + formula);
        due("stops() of " + formula, desk.stops(), want == null ? 2 : NONE);
        due("run() of " + formula, desk.run(), want == null ? PeirceDesk.NOT_POSSIBLE : 7);
        if (want == null) {
            desk.wipe();
        } else {
            element(formula, 7, want);
        }
    }

    // ---- what is compared

    private void alone() {
        model.now.registers[0] = first;
        for (int what = 0; what < 8; what++) {
            due("of(0, " + what + ")", desk.of(0, what), model.of(0, what));
        }
        for (int power = 0; power < 5; power++) {
            int[][] want = model.power(first, power);
            for (int place = 0; place < want.length; place++) {
                due("power(0, " + power + ", " + place + ", 1)", desk.power(0, power, place, 1), want[place][1]);
            }
        }
        for (int part = 0; part < 3; part++) {
            due("partSize(0, " + part + ")", desk.partSize(0, part), model.partSize(0, part));
        }
        result("v(A)", model.inverse(first));
        compared();
    }

    private void pair(int[][] b) {
        if (calls > CALLS_OF_ONE_DESK) {
            start(first);
        }
        write(1, b);
        String other = " with B = " + Arrays.deepToString(b);
        due("areSame(0, 1)" + other, desk.areSame(0, 1), Model.same(first, b) ? 1 : 0);
        result("p(A,B)", model.product(first, b));
        result("u(A,B)", model.operator(first, b));
        result("t(A,B,A-B)", model.triple(first, b, model.combined(first, -1, b)));
        if (model.ownSquare(first)) {
            calls++;
            desk.split(0, 1, 3);
            for (int part = 0; part < 3; part++) {
                element("part " + part + other, 5 - part, model.part(part, first, b));
            }
        }
        compared();
    }
}
