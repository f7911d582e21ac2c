/** The boundary sentences of the terms: elements and registers, and the operations. */
public final class EdgesOfElementsTest extends Edges {
    public static void main(String[] arguments) {
        runAll(EdgesOfElementsTest.class);
    }

    // ---- elements, registers

    @Sentence("Elements: the size is 2 at first")
    void sizeAtFirst() {
        PeirceDesk desk = new PeirceDesk();
        due("count(0)", desk.count(0), 2);
        due("set(0, 1, 1, 0)", desk.set(0, 1, 1, 0), 0);
        due("set(0, 2, 2, 0)", desk.set(0, 2, 2, 0), NO_SUCH);
    }

    @Sentence("Elements: the modulus is 5 at first")
    void modulusAtFirst() {
        PeirceDesk desk = new PeirceDesk();
        due("count(1)", desk.count(1), 5);
        due("set(0, 0, 0, 4)", desk.set(0, 0, 0, 4), 0);
        due("set(0, 0, 0, 5)", desk.set(0, 0, 0, 5), BAD_VALUE);
    }

    @Sentence("Elements: each register has an element (0 everywhere at first)")
    void registersAtFirst() {
        PeirceDesk desk = new PeirceDesk();
        for (int register = 0; register < 8; register++) {
            element("a new desk", desk, register, 0, 0, 0);
        }
        due("count(2)", desk.count(2), 0);
    }

    @Sentence("Operations: the base is the identity matrix at first")
    void baseAtFirst() {
        PeirceDesk desk = new PeirceDesk();
        element("the base", desk, 8, 1, 0, 1);
        element("the unit", desk, 9, 1, 0, 1);
    }

    @Sentence("Elements: registers are 0 to 7 (A to H): A is 0")
    void lettersFromA() {
        PeirceDesk desk = filled();
        due("run() of A:D", run(desk, "A:D"), 0);
        element("A", desk, 0, 0, 1, 0);
    }

    @Sentence("Elements: registers are 0 to 7 (A to H): H is 7")
    void lettersToH() {
        PeirceDesk desk = new PeirceDesk();
        desk.set(7, 0, 1, 3);
        due("run() of G:H", run(desk, "G:H"), 6);
        element("G", desk, 6, 0, 3, 0);
        due("run() of H:i", run(desk, "H:i"), 7);
        element("H", desk, 7, 1, 0, 1);
    }

    // ---- counting modulo the modulus

    /** Runs "C:" and a text with A = a, B = b where row and column are the same, at both sizes. */
    private void reckoned(int modulus, int a, int b, String text, int want) {
        for (int size : SIZES) {
            PeirceDesk desk = desk(size, modulus);
            diagonal(desk, 0, size == 2 ? new int[] {a, a} : new int[] {a, a, a});
            diagonal(desk, 1, size == 2 ? new int[] {b, b} : new int[] {b, b, b});
            String call = "C:" + text + " of " + a + " and " + b + " modulo " + modulus;
            due(call, run(desk, "C:" + text), 2);
            element(call, desk, 2, size == 2 ? new int[] {want, 0, want} : new int[] {want, 0, 0, want, 0, want});
        }
    }

    @Sentence("Elements: all is counted modulo the modulus: a sum of the modulus less 1 stays")
    void sumBelowTheModulus() {
        for (int modulus : MODULI) {
            reckoned(modulus, modulus - 2, 1, "A+B", modulus - 1);
        }
    }

    @Sentence("Elements: all is counted modulo the modulus: a sum of just the modulus is 0")
    void sumOfTheModulus() {
        for (int modulus : MODULI) {
            reckoned(modulus, modulus - 1, 1, "A+B", 0);
        }
    }

    @Sentence("Elements: all is counted modulo the modulus: the greatest sum wraps around")
    void greatestSum() {
        for (int modulus : MODULI) {
            reckoned(modulus, modulus - 1, modulus - 1, "A+B", modulus - 2);
        }
    }

    @Sentence("Elements: all is counted modulo the modulus: a difference of 0 stays")
    void differenceOfNothing() {
        for (int modulus : MODULI) {
            reckoned(modulus, modulus - 1, modulus - 1, "A-B", 0);
        }
    }

    @Sentence("Elements: all is counted modulo the modulus: a difference one below 0 is the modulus less 1")
    void differenceBelowZero() {
        for (int modulus : MODULI) {
            reckoned(modulus, 0, 1, "A-B", modulus - 1);
            reckoned(modulus, modulus - 2, modulus - 1, "A-B", modulus - 1);
        }
    }

    @Sentence("Elements: all is counted modulo the modulus: the least difference wraps around")
    void leastDifference() {
        for (int modulus : MODULI) {
            reckoned(modulus, 0, modulus - 1, "A-B", 1);
        }
    }

    @Sentence("Elements: all is counted modulo the modulus: a long sum and a long difference wrap around many times")
    void longSums() {
        for (int modulus : MODULI) {
            reckoned(modulus, modulus - 1, 0, "A+A+A+A+A+A+A+A+A+A+A+A+A+A", Math.floorMod(-14, modulus));
            reckoned(modulus, 0, modulus - 1, "A-B-B-B-B-B-B-B-B-B-B-B-B-B-B", 14 % modulus);
        }
    }

    @Sentence("Elements: all is counted modulo the modulus: multiples wrap around")
    void multiples() {
        for (int modulus : MODULI) {
            reckoned(modulus, modulus - 1, 1, "9*A", Math.floorMod(-9, modulus));
            reckoned(modulus, modulus - 1, 1, "B-9*A", 10 % modulus);
        }
        reckoned(3, 2, 0, "3*A", 0);
        reckoned(5, 4, 0, "5*A", 0);
        reckoned(7, 6, 0, "7*A", 0);
        reckoned(11, 10, 0, "9*A+2*A", 0);
    }

    @Sentence("Elements: all is counted modulo the modulus: products wrap around")
    void products() {
        for (int modulus : MODULI) {
            reckoned(modulus, modulus - 1, modulus - 1, "p(A,B)", 1);
            reckoned(modulus, modulus - 1, modulus - 2, "p(A,B)", 2);
            reckoned(modulus, modulus - 1, modulus - 1, "u(A,B)", modulus - 1);
            reckoned(modulus, modulus - 1, modulus - 1, "t(A,B,A)", modulus - 1);
        }
    }

    /** The number at 0, 1 of the product of A = a 0 / 0 b and of n where row and column are not the
        same: half of (a n and b n, together). */
    private void halved(int modulus, int a, int b, int n, int want) {
        for (int size : SIZES) {
            PeirceDesk desk = desk(size, modulus);
            diagonal(desk, 0, a, b);
            desk.set(1, 0, 1, n);
            String call = "half of (" + a + " and " + b + ") times " + n + " modulo " + modulus;
            due(call, run(desk, "C:p(A,B)"), 2);
            due(call, desk.entry(2, 0, 1), want);
            due(call, desk.entry(2, 1, 0), want);
            due(call, desk.entry(2, 0, 0), 0);
        }
    }

    @Sentence("Elements: half of a number too: half of 0 is 0, also of a sum that is just the modulus")
    void halfOfZero() {
        for (int modulus : MODULI) {
            halved(modulus, 0, 0, 1, 0);
            halved(modulus, 1, modulus - 1, 1, 0);
        }
    }

    @Sentence("Elements: half of a number too: half of 1 wraps around")
    void halfOfOne() {
        halved(3, 1, 0, 1, 2);
        halved(5, 1, 0, 1, 3);
        halved(7, 1, 0, 1, 4);
        halved(11, 1, 0, 1, 6);
    }

    @Sentence("Elements: half of a number too: half of 2 is 1, and half of the modulus less 1 does not wrap")
    void halfOfEven() {
        for (int modulus : MODULI) {
            halved(modulus, 1, 1, 1, 1);
            halved(modulus, 1, 0, modulus - 1, (modulus - 1) / 2);
        }
    }

    @Sentence("Elements: half of a number too: half of the modulus less 2 is the modulus less 1")
    void halfOfTheGreatestOdd() {
        for (int modulus : MODULI) {
            halved(modulus, modulus - 2, 0, 1, modulus - 1);
            halved(modulus, modulus - 1, modulus - 1, 1, modulus - 1);
        }
    }

    // ---- the usual inverse

    @Sentence("Elements: there is a usual inverse just if the determinant is not 0: the determinant 0")
    void noInverseOfDeterminantZero() {
        PeirceDesk desk = filled();
        each("of(register, 4)", register -> desk.of(register, 4), 0, 1, 2, 4);
        due("stops() of A:v(C)", typed(desk, "A:v(C)").stops(), 2);
        PeirceDesk three = desk(3, 7);
        diagonal(three, 0, 1, 1, 0);
        due("of(0, 4)", three.of(0, 4), 0);
        due("stops() of A:v(A)", typed(three, "A:v(A)").stops(), 2);
    }

    @Sentence("Elements: there is a usual inverse just if the determinant is not 0: a determinant that is 0 modulo the modulus")
    void noInverseOfDeterminantThatWraps() {
        int[][] corners = {{2, 2}, {2, 3}, {2, 4}, {3, 4}};
        for (int k = 0; k < 4; k++) {
            PeirceDesk desk = desk(2, MODULI[k]);
            Checks.write(desk, 0, corners[k][0], 1, corners[k][1]);
            due("of(0, 1) modulo " + MODULI[k], desk.of(0, 1), 0);
            due("of(0, 4) modulo " + MODULI[k], desk.of(0, 4), 0);
            due("base(0) modulo " + MODULI[k], desk.base(0), NOT_POSSIBLE);
            due("stops() of A:v(A) modulo " + MODULI[k], typed(desk, "A:v(A)").stops(), 2);
            PeirceDesk three = desk(3, MODULI[k]);
            Checks.write(three, 0, 1, 0, 0, corners[k][0], 1, corners[k][1]);
            due("of(0, 4) of the size 3 modulo " + MODULI[k], three.of(0, 4), 0);
            due("stops() of A:v(A) of the size 3 modulo " + MODULI[k], typed(three, "A:v(A)").stops(), 2);
        }
    }

    @Sentence("Elements: there is a usual inverse just if the determinant is not 0: the determinants 1 and the modulus less 1")
    void inverseOfOtherDeterminants() {
        for (int modulus : MODULI) {
            PeirceDesk desk = desk(2, modulus);
            Checks.write(desk, 0, 0, 1, 0);
            Checks.write(desk, 1, 1, 1, 2);
            due("of(0, 1)", desk.of(0, 1), modulus - 1);
            due("of(1, 1)", desk.of(1, 1), 1);
            each("of(register, 4)", register -> desk.of(register, 4), 1, 0, 1);
            run(desk, "C:v(A)");
            element("v of the determinant -1", desk, 2, 0, 1, 0);
            run(desk, "C:v(B)");
            element("v of the determinant 1", desk, 2, 2, modulus - 1, 1);
            PeirceDesk three = desk(3, modulus);
            Checks.write(three, 0, 0, 1, 0, 0, 0, 1);
            run(three, "C:v(A)");
            element("v of the determinant -1", three, 2, 0, 1, 0, 0, 0, 1);
        }
    }

    // ---- operations

    @Sentence("Operations: the unit is v, the usual inverse of the base")
    void unitIsInverseOfTheBase() {
        PeirceDesk desk = filled();
        desk.base(0);
        element("the unit", desk, 9, 2, 2, 4);
        run(desk, "E:i");
        element("i", desk, 4, 2, 2, 4);
        due("of(9, 3)", desk.of(9, 3), 1);
    }

    @Sentence("Operations: the product of a and b is half of (a u b, and b u a, together)")
    void productByTheBase() {
        PeirceDesk desk = filled();
        run(desk, "E:p(A,B)");
        element("p(A,B) by the identity matrix", desk, 4, 1, 1, 0);
        desk.base(3);
        run(desk, "E:p(A,B)");
        element("p(A,B) by D", desk, 4, 2, 4, 0);
        run(desk, "E:p(B,A)");
        element("p(B,A) by D", desk, 4, 2, 4, 0);
        run(desk, "E:p(A,i)");
        element("p(A,i) by D", desk, 4, 1, 2, 3);
    }

    @Sentence("Operations: the operator of a, used on b, gives a u b u a")
    void operatorByTheBase() {
        PeirceDesk desk = filled();
        run(desk, "E:u(A,B)");
        element("u(A,B) by the identity matrix", desk, 4, 1, 2, 4);
        run(desk, "E:u(B,A)");
        element("u(B,A) by the identity matrix", desk, 4, 1, 0, 0);
        desk.base(3);
        run(desk, "E:u(A,B)");
        element("u(A,B) by D", desk, 4, 4, 1, 4);
        run(desk, "E:u(B,A)");
        element("u(B,A) by D", desk, 4, 3, 0, 0);
    }

    @Sentence("Operations: the triple of a, b and c is half of (a u b u c, and c u b u a, together)")
    void tripleByTheBase() {
        PeirceDesk desk = filled();
        run(desk, "E:t(A,B,D)");
        element("t(A,B,D) by the identity matrix", desk, 4, 0, 3, 2);
        run(desk, "E:t(D,B,A)");
        element("t(D,B,A) by the identity matrix", desk, 4, 0, 3, 2);
        run(desk, "E:t(B,A,D)");
        element("t(B,A,D) by the identity matrix", desk, 4, 2, 3, 0);
        desk.base(3);
        run(desk, "E:t(A,A,B)");
        element("t(A,A,B) by D", desk, 4, 2, 1, 0);
        run(desk, "E:t(A,B,i)");
        element("t(A,B,i) by D", desk, 4, 2, 4, 0);
    }

    @Sentence("Operations: the power 0 of a is the unit, also of the element 0")
    void powerZero() {
        PeirceDesk desk = filled();
        desk.base(0);
        for (int register = 0; register < 8; register++) {
            due("power(" + register + ", 0, 0, 0)", desk.power(register, 0, 0, 0), 2);
            due("power(" + register + ", 0, 0, 1)", desk.power(register, 0, 0, 1), 2);
            due("power(" + register + ", 0, 1, 1)", desk.power(register, 0, 1, 1), 4);
        }
    }

    @Sentence("Operations: the power k and 1 is the product of the power k and a: the power 1 is a")
    void powerOne() {
        PeirceDesk desk = filled();
        desk.base(3);
        due("power(0, 1, 0, 0)", desk.power(0, 1, 0, 0), 1);
        due("power(0, 1, 0, 1)", desk.power(0, 1, 0, 1), 2);
        due("power(0, 1, 1, 1)", desk.power(0, 1, 1, 1), 3);
        desk.base(0);
        due("power(3, 1, 0, 0) by A", desk.power(3, 1, 0, 0), 0);
        due("power(3, 1, 0, 1) by A", desk.power(3, 1, 0, 1), 1);
        due("power(3, 1, 1, 1) by A", desk.power(3, 1, 1, 1), 0);
    }

    @Sentence("Operations: the power k and 1 is the product of the power k and a: the powers 2 and 3")
    void powerTwo() {
        PeirceDesk desk = filled();
        desk.base(3);
        run(desk, "E:p(A,A)");
        run(desk, "F:p(E,A)");
        for (int place = 0; place < 4; place++) {
            due("power(0, 2, ..)", desk.power(0, 2, place / 2, place % 2), desk.entry(4, place / 2, place % 2));
            due("power(0, 3, ..)", desk.power(0, 3, place / 2, place % 2), desk.entry(5, place / 2, place % 2));
        }
        element("the power 2 by D", desk, 4, 4, 2, 2);
    }

    @Sentence("Operations: the inverse of a is v w v, with w for the usual inverse of a")
    void inverseByTheBase() {
        PeirceDesk desk = filled();
        run(desk, "E:v(A)");
        element("v(A) by the identity matrix", desk, 4, 2, 2, 4);
        desk.base(3);
        run(desk, "E:v(A)");
        element("v(A) by D", desk, 4, 4, 2, 2);
        run(desk, "E:v(i)");
        element("v(i) by D", desk, 4, 0, 1, 0);
        desk.base(0);
        run(desk, "E:v(i)");
        element("v(i) by A, the unit", desk, 4, 2, 2, 4);
        run(desk, "E:v(D)");
        element("v(D) by A", desk, 4, 3, 2, 1);
        run(desk, "E:p(v(D),D)");
        element("the product of D and v(D), the unit", desk, 4, 2, 2, 4);
        run(desk, "E:u(D,v(D))");
        element("the operator of D, used on v(D)", desk, 4, 0, 1, 0);
    }

    @Sentence("Operations: an element is its own square if its product with itself is itself: by the base, and 0 and the unit are")
    void ownSquaresByTheBase() {
        PeirceDesk desk = filled();
        run(desk, "F:i");
        due("count(3) by the identity matrix", desk.count(3), 0xf2);
        desk.base(3);
        due("count(3) by D", desk.count(3), 0xd8);
        run(desk, "F:i");
        due("count(3) by D, F being the unit", desk.count(3), 0xf8);
    }

    @Sentence("Operations: part 2 is the operator of e, used on b")
    void partTwo() {
        PeirceDesk desk = parted();
        element("part 2", desk, 5, 4, 4, 4);
    }

    @Sentence("Operations: part 0 is the operator of the unit less e, used on b")
    void partZero() {
        PeirceDesk desk = parted();
        element("part 0", desk, 7, 4, 1, 4);
    }

    @Sentence("Operations: part 1 is b less both")
    void partOne() {
        PeirceDesk desk = parted();
        element("part 1", desk, 6, 3, 0, 2);
    }

    /** By the base D, B is split by 3 3 / 3 3. */
    private PeirceDesk parted() {
        PeirceDesk desk = filled();
        desk.base(3);
        Checks.write(desk, 4, 3, 3, 3);
        due("split(4, 1, 5)", desk.split(4, 1, 5), 3);
        return desk;
    }
}
