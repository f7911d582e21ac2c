import java.util.function.ToIntFunction;

/**
 * The sentences of the document that name no boundary case, as far as no other test is for each of
 * them: what an object is used for, the terms at the size 3 by a turned base, and the promises.
 */
public final class SentencesTest extends Edges {
    public static void main(String[] arguments) {
        runAll(SentencesTest.class);
    }

    // ---- what it is

    @Sentence("What it is: an object is used for at most 512 calls after it has been made: the last changes are made as the first ones")
    void lastChanges() {
        PeirceDesk desk = new PeirceDesk();
        for (int call = 0; call < 500; call++) {
            due("set, call " + (call + 1), desk.set(0, 0, 0, (call + 1) % 5), call % 5);
        }
        due("count(5), call 501", desk.count(5), 6);
        due("undo(), call 502", desk.undo(), 5);
        due("entry(0, 0, 0), call 503", desk.entry(0, 0, 0), 4);
        due("save(1), call 504", desk.save(1), 2);
        due("split(1, 0, 5), call 505", desk.split(1, 0, 5), 1);
        due("base(NONE), call 506", desk.base(NONE), 1);
        due("begin(3, 7), call 507", desk.begin(3, 7), 2);
        due("restore(1), call 508", desk.restore(1), 2);
        due("put of A:i, call 509", desk.put(Checks.packed("A:i")), 3);
        due("run(), call 510", desk.run(), 0);
        due("set(0, 0, 1, 4), call 511", desk.set(0, 0, 1, 4), 0);
        due("of(0, 1), call 512", desk.of(0, 1), 0);
    }

    @Sentence("What it is: an object is used for at most 512 calls after it has been made: the last texts are read as the first ones")
    void lastTexts() {
        PeirceDesk desk = filled();
        due("the changes that filled it, 12 calls", desk.count(5), 6);
        for (int round = 0; round < 83; round++) {
            due("put of A=v(C)", desk.put(Checks.packed("A=v(C)")), 6);
            due("fault()", desk.fault(), NONE);
            due("stops()", desk.stops(), 2);
            due("holds()", desk.holds(), NOT_POSSIBLE);
            due("run()", desk.run(), NOT_POSSIBLE);
            due("wipe()", desk.wipe(), 6);
        }
        due("count(4), call 512", desk.count(4), 0);
    }

    // ---- conventions

    @Sentence("Conventions: a method that fails returns one of the error codes NO_SUCH (-1) to NOT_POSSIBLE (-5); NONE (-6) is not an error")
    void codes() {
        PeirceDesk desk = new PeirceDesk();
        due("NO_SUCH", desk.set(8, 0, 0, 0), -1);
        due("BAD_VALUE", desk.begin(4, 5), -2);
        due("BAD_TEXT", desk.run(), -3);
        due("NOT_POSSIBLE", desk.undo(), -5);
        due("NONE", desk.of(0, 5), -6);
        Checks.type(desk, "A".repeat(60));
        due("TOO_MANY", desk.put('A'), -4);
        int[] told = {PeirceDesk.NO_SUCH, PeirceDesk.BAD_VALUE, PeirceDesk.BAD_TEXT, PeirceDesk.TOO_MANY,
            PeirceDesk.NOT_POSSIBLE, PeirceDesk.NONE};
        for (int k = 0; k < told.length; k++) {
            due("the constant " + k, told[k], -1 - k);
        }
    }

    @Sentence("Conventions: everything is numbered from 0")
    void numberedFromZero() {
        PeirceDesk desk = new PeirceDesk();
        desk.set(0, 0, 0, 3);
        desk.set(0, 0, 1, 2);
        desk.set(0, 1, 1, 1);
        due("the first register, row and column", desk.entry(0, 0, 0), 3);
        due("the second column", desk.entry(0, 0, 1), 2);
        due("the second row and column", desk.entry(0, 1, 1), 1);
        due("the first place of the set of registers", desk.count(2), 1);
        due("the first character", typed(desk, ")").fault(), 0);
        due("the second character", typed(desk, "A)").fault(), 1);
        due("the place of the first v", typed(desk, "v(B)=A").stops(), 0);
        run(desk, "B:A");
        due("B is the second register", desk.areSame(0, 1), 1);
        due("the first slot", desk.save(0), 2);
    }

    // ---- elements

    /** A number of a sequence that is the same in every run. */
    private int next(int below) {
        seed = seed * 1103515245 + 12345;
        return (seed >>> 16) % below;
    }

    private int seed = 7;

    private static final String[] RESULTS = {"A+B", "A-B", "9*A-B", "i", "p(A,B)", "u(A,B)", "t(A,B,C)", "v(A)",
        "p(u(A,B),t(C,A,B))", "u(p(A,C),B)-C", "v(p(A,B))", "t(A-B,C,A)"};

    /** A desk with any elements in A to D, D being the base if it may be. */
    private PeirceDesk any(int size, int modulus) {
        PeirceDesk desk = desk(size, modulus);
        for (int register = 0; register < 4; register++) {
            for (int row = 0; row < size; row++) {
                for (int column = 0; column <= row; column++) {
                    desk.set(register, row, column, next(modulus));
                }
            }
        }
        desk.base(3);
        return desk;
    }

    @Sentence("Operations: (All of these results are symmetric.)")
    void resultsAreSymmetric() {
        for (int round = 0; round < 96; round++) {
            int size = SIZES[round % 2];
            PeirceDesk desk = any(size, MODULI[round / 2 % 4]);
            String text = RESULTS[round % RESULTS.length];
            if (run(desk, "E:" + text) == 4) {
                for (int place = 0; place < size * size; place++) {
                    due("E:" + text + " at " + place, desk.entry(4, place / size, place % size),
                            desk.entry(4, place % size, place / size));
                    due("the power 3 at " + place, desk.power(4, 3, place / size, place % size),
                            desk.power(4, 3, place % size, place / size));
                    due("the unit at " + place, desk.entry(9, place / size, place % size),
                            desk.entry(9, place % size, place / size));
                }
            }
        }
    }

    @Sentence("Elements: an element is of numbers from 0 to the modulus less 1, also a result")
    void resultsAreInRange() {
        for (int round = 0; round < 192; round++) {
            int size = SIZES[round % 2];
            int modulus = MODULI[round / 2 % 4];
            PeirceDesk desk = any(size, modulus);
            String text = RESULTS[round % RESULTS.length];
            run(desk, "E:" + text);
            run(desk, "F:i");
            desk.split(5, 4, 5);
            for (int register = 4; register < 10; register++) {
                for (int place = 0; place < size * size; place++) {
                    String call = "E:" + text + ", the register " + register;
                    inRange(call, desk.entry(register, place / size, place % size), modulus);
                    inRange("a power of " + call, desk.power(register % 8, 3, place / size, place % size), modulus);
                }
                inRange("the trace of " + register, desk.of(register, 0), modulus);
                inRange("the determinant of " + register, desk.of(register, 1), modulus);
            }
        }
    }

    private void inRange(String call, int number, int modulus) {
        due(call + ": " + number + " is from 0 to the modulus less 1", number >= 0 && number < modulus ? 1 : 0, 1);
    }

    @Sentence("Elements: as many rows and columns as the size tells, those of a result too")
    void resultsHaveTheSize() {
        for (int size : SIZES) {
            PeirceDesk desk = desk(size, 7);
            diagonal(desk, 0, size == 2 ? new int[] {2, 3} : new int[] {2, 3, 4});
            run(desk, "B:p(A,A)+i");
            run(desk, "C:v(A)");
            run(desk, "D:u(A,A)");
            element("p(A,A)+i", desk, 1, size == 2 ? new int[] {5, 0, 3} : new int[] {5, 0, 0, 3, 0, 3});
            element("v(A)", desk, 2, size == 2 ? new int[] {4, 0, 5} : new int[] {4, 0, 0, 5, 0, 2});
            element("u(A,A)", desk, 3, size == 2 ? new int[] {1, 0, 6} : new int[] {1, 0, 0, 6, 0, 1});
            for (int register = 0; register < 10; register++) {
                due("row " + size, desk.entry(register, size, 0), NO_SUCH);
                due("column " + size, desk.entry(register, 0, size), NO_SUCH);
            }
        }
    }

    @Sentence("Elements: half of a number is the number that gives it when it is doubled")
    void halves() {
        for (int modulus : MODULI) {
            for (int number = 0; number < modulus; number++) {
                PeirceDesk desk = desk(2, modulus);
                diagonal(desk, 0, number, 0);
                desk.set(1, 0, 1, 1);
                run(desk, "C:p(A,B)");
                due("half of " + number + ", doubled", 2 * desk.entry(2, 0, 1) % modulus, number);
                due("and exchanged", 2 * desk.entry(2, 1, 0) % modulus, number);
                run(desk, "D:t(A,B,i)");
                due("half of " + number + " in a triple, doubled", 2 * desk.entry(3, 0, 1) % modulus, number);
            }
        }
    }

    @Sentence("Elements: there are 8 registers, 0 to 7 (A to H): each letter is a register of its own")
    void eachLetter() {
        PeirceDesk desk = numbered(2);
        for (int register = 0; register < 8; register++) {
            char letter = (char) ('A' + register);
            due("run() of " + letter + ":i+" + letter, run(desk, letter + ":i+" + letter), register);
            element(letter + ":i+" + letter, desk, register, register + 2, 0, 1);
        }
        due("none came over another", desk.entry(0, 0, 0), 2);
    }

    @Sentence("Elements: the usual inverse of a matrix is the one whose usual product with it is the identity matrix")
    void usualInverse() {
        for (int round = 0; round < 160; round++) {
            int size = SIZES[round % 2];
            int modulus = MODULI[round / 2 % 4];
            PeirceDesk desk = any(size, modulus);
            for (int row = 0; row < size; row++) {
                for (int column = 0; column < size; column++) {
                    int sum = 0;
                    for (int between = 0; between < size; between++) {
                        sum += desk.entry(8, row, between) * desk.entry(9, between, column);
                    }
                    due("the base times the unit", sum % modulus, row == column ? 1 : 0);
                }
            }
        }
    }

    // ---- operations, of the size 3 by a base that is full

    /** Of the size 3 and the modulus 7, by the base H = 2 1 0 / 1 3 4 / 0 4 6: A = 1 2 3 / 2 4 5 / 3 5 6,
        B = 0 1 6 / 1 2 0 / 6 0 3, C = 3 0 2 / 0 5 1 / 2 1 0, D = 1 2 3 / 2 4 6 / 3 6 2, its own square,
        and E, the unit less D; the slot 0 has the desk as it was begun. */
    private static PeirceDesk turned() {
        PeirceDesk desk = desk(3, 7);
        desk.save(0);
        Checks.write(desk, 7, 2, 1, 0, 3, 4, 6);
        desk.base(7);
        Checks.write(desk, 0, 1, 2, 3, 4, 5, 6);
        Checks.write(desk, 1, 0, 1, 6, 2, 0, 3);
        Checks.write(desk, 2, 3, 0, 2, 5, 1, 0);
        Checks.write(desk, 3, 1, 2, 3, 4, 6, 2);
        Checks.write(desk, 4, 5, 1, 2, 4, 5, 6);
        return desk;
    }

    private void turnedResult(String text, int... upper) {
        PeirceDesk desk = turned();
        due("run() of " + text, run(desk, text), 5);
        element(text, desk, 5, upper);
    }

    @Sentence("Operations: the unit is v, of the size 3 by a full base")
    void unitOfThree() {
        PeirceDesk desk = turned();
        element("the base", desk, 8, 2, 1, 0, 3, 4, 6);
        element("the unit", desk, 9, 6, 3, 5, 1, 4, 1);
        turnedResult("F:i", 6, 3, 5, 1, 4, 1);
        turnedResult("F:p(A,i)", 1, 2, 3, 4, 5, 6);
        turnedResult("F:u(i,A)", 1, 2, 3, 4, 5, 6);
    }

    @Sentence("Operations: the product of a and b is half of (a u b, and b u a, together), of the size 3 by a full base")
    void productOfThree() {
        turnedResult("F:p(A,B)", 0, 1, 2, 6, 4, 3);
        turnedResult("F:p(B,A)", 0, 1, 2, 6, 4, 3);
    }

    @Sentence("Operations: the operator of a, used on b, gives a u b u a, of the size 3 by a full base")
    void operatorOfThree() {
        turnedResult("F:u(A,B)", 6, 2, 0, 5, 1, 0);
        turnedResult("F:u(B,A)", 5, 0, 1, 4, 5, 6);
    }

    @Sentence("Operations: the triple of a, b and c is half of (a u b u c, and c u b u a, together), of the size 3 by a full base")
    void tripleOfThree() {
        turnedResult("F:t(A,B,C)", 6, 3, 6, 4, 0, 4);
        turnedResult("F:t(C,B,A)", 6, 3, 6, 4, 0, 4);
        turnedResult("F:t(B,A,C)", 1, 6, 1, 1, 5, 3);
        turnedResult("F:t(A,C,B)", 1, 3, 6, 3, 3, 1);
        turnedResult("F:t(A,B,A)", 6, 2, 0, 5, 1, 0);
    }

    @Sentence("Operations: the power k and 1 is the product of the power k and a, of the size 3 by a full base")
    void powersOfThree() {
        int[][] want = {{6, 3, 5, 1, 4, 1}, {1, 2, 3, 4, 5, 6}, {1, 4, 4, 4, 1, 5}, {2, 6, 4, 4, 2, 2}};
        PeirceDesk desk = turned();
        for (int power = 0; power < want.length; power++) {
            int next = 0;
            for (int row = 0; row < 3; row++) {
                for (int column = row; column < 3; column++) {
                    due("power(0, " + power + ", " + row + ", " + column + ")", desk.power(0, power, row, column), want[power][next]);
                    due("power(0, " + power + ", " + column + ", " + row + ")", desk.power(0, power, column, row), want[power][next]);
                    next++;
                }
            }
        }
    }

    @Sentence("Operations: the inverse of a is v w v, of the size 3 by a full base; there is none if a has none")
    void inverseOfThree() {
        turnedResult("F:v(A)", 3, 1, 2, 6, 5, 0);
        turnedResult("F:v(B)", 5, 5, 4, 5, 2, 2);
        turnedResult("F:v(C)", 0, 4, 5, 2, 4, 3);
        turnedResult("F:p(A,v(A))", 6, 3, 5, 1, 4, 1);
        turnedResult("F:v(i)", 6, 3, 5, 1, 4, 1);
        due("stops() of F:v(D)", typed(turned(), "F:v(D)").stops(), 2);
        due("stops() of F:v(E)", typed(turned(), "F:v(E)").stops(), 2);
    }

    @Sentence("Operations: an element is its own square if its product with itself is itself, of the size 3 by a full base")
    void ownSquaresOfThree() {
        PeirceDesk desk = turned();
        due("count(3)", desk.count(3), 0x78);
        due("of(3, 3)", desk.of(3, 3), 1);
        due("of(0, 3)", desk.of(0, 3), 0);
        desk.base(NONE);
        due("count(3) by the identity matrix", desk.count(3), 0x60);
    }

    @Sentence("Operations: the parts of an element b by e, of the size 3 by a full base")
    void partsOfThree() {
        PeirceDesk desk = turned();
        due("split(3, 0, 5)", desk.split(3, 0, 5), 3);
        element("part 2 of A", desk, 5, 2, 4, 6, 1, 5, 4);
        element("part 1 of A", desk, 6, 5, 5, 2, 0, 3, 2);
        element("part 0 of A", desk, 7, 1, 0, 2, 3, 4, 0);
        due("split(4, 1, 5)", desk.split(4, 1, 5), 3);
        element("part 2 of B by E", desk, 5, 6, 6, 6, 5, 0, 5);
        element("part 1 of B by E", desk, 6, 2, 4, 3, 1, 6, 0);
        element("part 0 of B by E", desk, 7, 6, 5, 4, 3, 1, 5);
        int[] exponents = {3, 2, 1};
        for (int part = 0; part < 3; part++) {
            due("partSize(3, " + part + ")", desk.partSize(3, part), exponents[part]);
            due("partSize(4, " + part + ")", desk.partSize(4, part), exponents[2 - part]);
        }
    }

    @Sentence("Operations: all operations go by the base: those of a base that was taken last, taken back or begun anew")
    void operationsGoByTheBase() {
        PeirceDesk desk = filled();
        due("by the identity matrix", firstOfTheProduct(desk), 2);
        desk.base(3);
        due("by D", firstOfTheProduct(desk), 1);
        desk.base(0);
        due("by A", firstOfTheProduct(desk), 3);
        desk.undo();
        due("by D again", firstOfTheProduct(desk), 1);
        desk.base(NONE);
        due("by the identity matrix again", firstOfTheProduct(desk), 2);
        desk.base(3);
        desk.save(0);
        desk.begin(2, 5);
        Checks.write(desk, 3, 0, 1, 0);
        Checks.write(desk, 0, 1, 2, 3);
        due("begun anew", firstOfTheProduct(desk), 2);
        desk.restore(0);
        due("by D, from the slot", firstOfTheProduct(desk), 1);
    }

    /** The number at 0, 0 of the product of A and D; the register H gets it, and gives it back. */
    private int firstOfTheProduct(PeirceDesk desk) {
        run(desk, "H:p(A,D)");
        int number = desk.entry(7, 0, 0);
        desk.undo();
        return number;
    }

    // ---- formulas

    @Sentence("Formulas: the first kind is a formula, the second one an equation")
    void formulaOrEquation() {
        PeirceDesk desk = filled();
        due("holds() of A=A", typed(desk, "A=A").holds(), 1);
        due("run() of A=A", desk.run(), NOT_POSSIBLE);
        due("holds() of A:A", typed(desk, "A:A").holds(), NOT_POSSIBLE);
        due("run() of A:A", desk.run(), 0);
        due("holds() of (A)=A", typed(desk, "(A)=A").holds(), 1);
        due("run() of (A)=A", desk.run(), NOT_POSSIBLE);
    }

    @Sentence("Formulas: \"p\" is the product")
    void letterP() {
        PeirceDesk desk = filled();
        run(desk, "E:p(A,B)");
        element("p(A,B)", desk, 4, 1, 1, 0);
        run(desk, "E:p(A,D)");
        element("p(A,D)", desk, 4, 2, 2, 2);
        run(desk, "E:p(A+D,B-D)-p(2*A,B)");
        element("p(A+D,B-D)-p(2*A,B)", desk, 4, 1, 0, 2);
    }

    @Sentence("Formulas: \"v\" is the inverse")
    void letterV() {
        PeirceDesk desk = filled();
        run(desk, "E:v(A)");
        element("v(A)", desk, 4, 2, 2, 4);
        run(desk, "E:v(A+B)-D");
        element("v(A+B)-D", desk, 4, 4, 3, 1);
        run(desk, "E:v(2*D)");
        element("v(2*D)", desk, 4, 0, 3, 0);
    }

    @Sentence("Formulas: it stops at a \"v\" whose inverse there is not, by any base and at either size")
    void stopsAtEitherSize() {
        PeirceDesk desk = turned();
        due("stops() of F:v(A)+v(D)", typed(desk, "F:v(A)+v(D)").stops(), 7);
        due("run() of it", desk.run(), NOT_POSSIBLE);
        due("stops() of A=u(v(E),v(D))", typed(desk, "A=u(v(E),v(D))").stops(), 4);
        due("holds() of it", desk.holds(), NOT_POSSIBLE);
        due("stops() of F:v(D+E)", typed(desk, "F:v(D+E)").stops(), NONE);
        desk.base(NONE);
        due("stops() of F:v(D+E) by the identity matrix", typed(desk, "F:v(D+E)").stops(), NONE);
        due("stops() of F:v(i-i) by the identity matrix", typed(desk, "F:v(i-i)").stops(), 2);
    }

    // ---- promises

    @Sentence("Promise 8: of, 0 its trace, 1 its determinant, 2 its rank, 4 whether it has an inverse: the same by any base")
    void ofByAnyBase() {
        for (int turn = 0; turn < 2; turn++) {
            PeirceDesk desk = turned();
            if (turn == 1) {
                desk.base(NONE);
            }
            int[][] want = {{4, 6, 3, 1}, {5, 2, 3, 1}, {1, 5, 3, 1}, {0, 0, 1, 0}, {1, 0, 2, 0}};
            for (int register = 0; register < want.length; register++) {
                due("of(" + register + ", 0)", desk.of(register, 0), want[register][0]);
                due("of(" + register + ", 1)", desk.of(register, 1), want[register][1]);
                due("of(" + register + ", 2)", desk.of(register, 2), want[register][2]);
                due("of(" + register + ", 4)", desk.of(register, 4), want[register][3]);
            }
        }
    }

    @Sentence("Promise 8: of, 2 its rank: of rows and columns that are 0 at any place")
    void rankWithEmptyRows() {
        for (int modulus : MODULI) {
            PeirceDesk desk = desk(3, modulus);
            Checks.write(desk, 0, 0, 0, 0, 1, 1, 1);
            due("0 0 0 / 0 1 1 / 0 1 1", desk.of(0, 2), 1);
            Checks.write(desk, 1, 1, 0, 1, 0, 0, 1);
            due("1 0 1 / 0 0 0 / 1 0 1", desk.of(1, 2), 1);
            Checks.write(desk, 2, 1, 1, 0, 1, 0, 0);
            due("1 1 0 / 1 1 0 / 0 0 0", desk.of(2, 2), 1);
            Checks.write(desk, 3, 0, 0, 0, 1, 1, 2);
            due("0 0 0 / 0 1 1 / 0 1 2", desk.of(3, 2), 2);
            Checks.write(desk, 4, 0, 0, 1, 0, 1, 1);
            due("0 0 1 / 0 0 1 / 1 1 1", desk.of(4, 2), 2);
        }
    }

    @Sentence("Promise 8: of, 6 its degree, whatever was asked before")
    void degreeBehindDegrees() {
        PeirceDesk desk = desk(3, 5);
        diagonal(desk, 0, 1, 2, 3);
        diagonal(desk, 1, 1, 1, 2);
        Checks.write(desk, 3, 0, 1, 0, 0, 1, 0);
        int[] want = {3, 2, 1, 3};
        for (int before = 0; before < 4; before++) {
            for (int register = 0; register < 4; register++) {
                desk.of(before, 6);
                due("of(" + register + ", 6) behind of(" + before + ", 6)", desk.of(register, 6), want[register]);
            }
        }
        desk.of(0, 6);
        desk.begin(2, 5);
        due("of(0, 6) of the size 2", desk.of(0, 6), 1);
        diagonal(desk, 0, 1, 2);
        due("of(0, 6) of the size 2", desk.of(0, 6), 2);
    }

    @Sentence("Promise 8: of, 6 its degree: 2 for a sum of multiples of the unit and of an element that is its own square, by any base")
    void degreeByAnyBase() {
        int[][] bases = {{1, 0, 0, 1, 0, 1}, {2, 1, 0, 3, 4, 6}, {0, 1, 0, 0, 0, 1}, {0, 0, 1, 1, 0, 0}, {1, 0, 0, 2, 0, 3}};
        int[] moduli = {7, 11};
        for (int round = 0; round < 400; round++) {
            PeirceDesk desk = desk(3, moduli[round % 2]);
            Checks.write(desk, 0, bases[round / 2 % bases.length]);
            desk.base(0);
            if (writeOwnSquare(desk, next(7), next(7), next(7))) {
                due("of(1, 3)", desk.of(1, 3), 1);
                due("of(1, 6)", desk.of(1, 6), 2);
                int times = 1 + next(6);
                run(desk, "C:" + next(7) + "*i+" + times + "*B");
                due("of(2, 6), a sum", desk.of(2, 6), 2);
                run(desk, "C:" + times + "*i");
                due("of(2, 6), a multiple of the unit", desk.of(2, 6), 1);
            }
        }
    }

    /** Writes the multiple of x with itself that is its own square into B; false if there is none. */
    private static boolean writeOwnSquare(PeirceDesk desk, int... x) {
        int modulus = desk.count(1);
        int sum = 0;
        for (int place = 0; place < 9; place++) {
            sum += x[place / 3] * desk.entry(8, place / 3, place % 3) * x[place % 3];
        }
        for (int times = 1; times < modulus; times++) {
            if (times * sum % modulus == 1) {
                for (int place = 0; place < 9; place++) {
                    desk.set(1, place / 3, place % 3, times * x[place / 3] * x[place % 3] % modulus);
                }
                return true;
            }
        }
        return false;
    }

    @Sentence("Promise 9: count, 0 the size: as it was begun, undone and restored")
    void countSize() {
        PeirceDesk desk = new PeirceDesk();
        due("count(0) at first", desk.count(0), 2);
        desk.begin(3, 5);
        due("count(0) behind begin", desk.count(0), 3);
        desk.save(0);
        desk.undo();
        due("count(0) behind undo", desk.count(0), 2);
        desk.restore(0);
        due("count(0) behind restore", desk.count(0), 3);
        desk.undo();
        due("count(0) behind undo of it", desk.count(0), 2);
    }

    @Sentence("Promise 9: count, 1 the modulus: as it was begun, undone and restored")
    void countModulus() {
        PeirceDesk desk = new PeirceDesk();
        due("count(1) at first", desk.count(1), 5);
        desk.begin(2, 11);
        due("count(1) behind begin", desk.count(1), 11);
        desk.save(1);
        desk.begin(2, 3);
        due("count(1) behind begin", desk.count(1), 3);
        desk.undo();
        due("count(1) behind undo", desk.count(1), 11);
        desk.undo();
        due("count(1) behind undo", desk.count(1), 5);
        desk.restore(1);
        due("count(1) behind restore", desk.count(1), 11);
    }

    @Sentence("Promise 12: rule, of the size 3 by a full base")
    void ruleOfThree() {
        PeirceDesk desk = turned();
        for (int k = 0; k < 4 * 4 * 4; k++) {
            due("rule(.., 0) " + k, desk.rule(k / 16, k / 4 % 4, k % 4, 0), 1);
        }
        for (int k = 0; k < 4 * 4 * 4; k++) {
            int a = k / 16;
            int b = k / 4 % 4;
            int c = k % 4;
            String text = "F:u(u(" + (char) ('A' + a) + "," + (char) ('A' + b) + ")," + (char) ('A' + c) + ")";
            run(desk, text);
            due("the trace of " + text, desk.rule(a, b, c, 1), desk.of(5, 0));
        }
    }

    @Sentence("Promise 14: howMany counts elements by the present base, modulo each modulus")
    void howManyByTheBase() {
        int[][] diagonals = {{1, 2}, {1, 2}, {1, 3}, {1, 2}};
        int[][] want = {{4, 18, 5, 4}, {8, 100, 1, 8}, {8, 294, 13, 8}, {12, 1210, 21, 12}};
        for (int k = 0; k < 4; k++) {
            PeirceDesk desk = desk(2, MODULI[k]);
            diagonal(desk, 0, diagonals[k]);
            desk.base(0);
            for (int kind = 0; kind < 4; kind++) {
                due("howMany(" + kind + ") modulo " + MODULI[k], desk.howMany(kind), want[k][kind]);
            }
        }
    }

    @Sentence("Promise 20: undoes the latest change: each method that is a change, of the size 3 with every number different")
    void undoOfEachChange() {
        undone("begin", desk -> desk.begin(2, 3));
        undone("set", desk -> desk.set(0, 2, 1, 0));
        undone("base", desk -> desk.base(1));
        undone("split", desk -> desk.split(3, 0, 2));
        undone("run", desk -> run(desk, "H:u(A,B)"));
        undone("restore", desk -> desk.restore(0));
    }

    private void undone(String call, ToIntFunction<PeirceDesk> change) {
        PeirceDesk desk = turned();
        String before = elements(desk);
        due("changes ahead of " + call, desk.count(5), 6);
        due(call + " is no error", change.applyAsInt(desk) >= 0 ? 1 : 0, 1);
        due(call + " makes a difference", elements(desk).equals(before) ? 1 : 0, 0);
        due("undo() of " + call, desk.undo(), 5);
        dueText("behind " + call + " and undo", elements(desk), before);
    }

    /** The state without the lengths of the pad and of the history. */
    private static String elements(PeirceDesk desk) {
        String state = state(desk);
        return desk.count(0) + " " + desk.count(1) + " " + desk.count(2) + " " + desk.count(3) + state.substring(state.indexOf('|'));
    }

    @Sentence("The public face: questions; nothing changes: what they answer does not go by what was asked before")
    void questionsBehindQuestions() {
        for (int first = 0; first < QUESTIONS; first++) {
            for (int second = 0; second < QUESTIONS; second++) {
                PeirceDesk desk = turned();
                typed(desk, "A+B=p(A,v(C))-t(A,B,C)");
                ask(desk, first);
                int want = ask(typed(turned(), "A+B=p(A,v(C))-t(A,B,C)"), second);
                due("the question " + second + " behind " + first, ask(desk, second), want);
            }
        }
    }

    private static final int QUESTIONS = 29;

    private static int ask(PeirceDesk desk, int question) {
        switch (question) {
            case 0: return desk.power(0, 1999, 1, 2);
            case 1: return desk.power(1, 3, 0, 2);
            case 2: return desk.rule(0, 1, 2, 0);
            case 3: return desk.rule(2, 1, 0, 1);
            case 4: return desk.partSize(3, 0);
            case 5: return desk.partSize(4, 0);
            case 6: return desk.howMany(0);
            case 7: return desk.areSame(0, 1);
            case 8: return desk.holds();
            case 9: return desk.stops();
            case 10: return desk.fault();
            case 11: return desk.count(3);
            case 12: return desk.entry(9, 1, 2);
            default: return desk.of(question % 5, question % 8);
        }
    }
}
