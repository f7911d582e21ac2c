/** One method for each promise: ordinary calls, the edges that the document names, and wrong calls. */
public final class PromisesTest {
    private static final int NO_SUCH = -1, BAD_VALUE = -2, BAD_TEXT = -3, TOO_MANY = -4, NOT_POSSIBLE = -5, NONE = -6;
    private static final int LEAST = Integer.MIN_VALUE, MOST = Integer.MAX_VALUE;

    private final Checks checks = new Checks("PromisesTest");
    private int promise;

    public static void main(String[] arguments) {
        PromisesTest test = new PromisesTest();
        test.promise1NewObject();
        test.promise2Begin();
        test.promise3Set();
        test.promise4Base();
        test.promise5Split();
        test.promise6Run();
        test.promise7Entry();
        test.promise8Of();
        test.promise9Count();
        test.promise10AreSame();
        test.promise11Power();
        test.promise12Rule();
        test.promise13PartSize();
        test.promise14HowMany();
        test.promise15Holds();
        test.promise16Stops();
        test.promise17Put();
        test.promise18Wipe();
        test.promise19Fault();
        test.promise20Undo();
        test.promise21Save();
        test.promise22Restore();
        test.operations();
        test.checks.finish();
    }

    private void due(String call, long got, long want) {
        checks.due("promise " + promise + ": " + call, got, want);
    }

    /** A desk with A = 1 2 / 2 3, B = 1 0 / 0 0 (its own square), C = 1 2 / 2 4 (no inverse) and D = 0 1 / 1 0. */
    private static PeirceDesk desk() {
        PeirceDesk desk = new PeirceDesk();
        Checks.write(desk, 0, 1, 2, 3);
        Checks.write(desk, 1, 1, 0, 0);
        Checks.write(desk, 2, 1, 2, 4);
        Checks.write(desk, 3, 0, 1, 0);
        return desk;
    }

    private static PeirceDesk desk(int size, int modulus) {
        PeirceDesk desk = new PeirceDesk();
        desk.begin(size, modulus);
        return desk;
    }

    /** All that can be read without the pad, as one number. */
    private static long digest(PeirceDesk desk) {
        long digest = 31L * desk.count(5) + 7L * desk.count(4) + desk.count(1);
        for (int register = 0; register < 10; register++) {
            digest = 1000003L * digest + Checks.read(desk, register);
        }
        return digest;
    }

    private void unchanged(PeirceDesk desk, long before) {
        due("what is there after an error", digest(desk), before);
    }

    private void element(String text, PeirceDesk desk, int register, int... upper) {
        due(text, Checks.read(desk, register), Checks.cells(upper));
    }

    private PeirceDesk typed(PeirceDesk desk, String text) {
        desk.wipe();
        Checks.type(desk, text);
        return desk;
    }

    private void promise1NewObject() {
        promise = 1;
        PeirceDesk desk = new PeirceDesk();
        due("count(0)", desk.count(0), 2);
        due("count(1)", desk.count(1), 5);
        due("count(2)", desk.count(2), 0);
        due("count(4)", desk.count(4), 0);
        due("count(5)", desk.count(5), 0);
        element("base", desk, 8, 1, 0, 1);
        element("unit", desk, 9, 1, 0, 1);
        for (int register = 0; register < 8; register++) {
            element("register " + register, desk, register, 0, 0, 0);
        }
        due("undo()", desk.undo(), NOT_POSSIBLE);
        due("restore(0)", desk.restore(0), NOT_POSSIBLE);
        due("restore(1)", desk.restore(1), NOT_POSSIBLE);
        PeirceDesk other = desk();
        due("another object", desk.areSame(0, 1), 1);
        due("the other object", other.areSame(0, 1), 0);
    }

    private void promise2Begin() {
        promise = 2;
        PeirceDesk desk = desk();
        desk.base(0);
        Checks.type(desk, "A=B");
        desk.save(1);
        due("begin(3, 7)", desk.begin(3, 7), 2);
        due("size", desk.count(0), 3);
        due("modulus", desk.count(1), 7);
        due("registers that are not 0", desk.count(2), 0);
        due("the pad stays", desk.count(4), 3);
        due("it is a change", desk.count(5), 6);
        element("base", desk, 8, 1, 0, 0, 1, 0, 1);
        element("unit", desk, 9, 1, 0, 0, 1, 0, 1);
        Checks.write(desk, 4, 1, 2, 3, 4, 5, 6);
        due("begin(2, 11)", desk.begin(2, 11), 3);
        element("a register of the size 3, gone", desk, 4, 0, 0, 0);
        due("set to the greatest number", desk.set(0, 0, 0, 10), 0);
        due("begin(3, 3)", desk.begin(3, 3), 2);
        due("begin(3, 5)", desk.begin(3, 5), 3);
        due("the last modulus", desk.count(1), 5);
        due("the slot stays", desk.restore(1), 2);
        element("a register from the slot", desk, 0, 1, 2, 3);
        int[] sizes = {1, 4, 0, -1, LEAST, MOST, NONE};
        int[] moduli = {2, 4, 6, 8, 9, 10, 12, 13, 1, 0, -3, LEAST, MOST};
        long before = digest(desk);
        for (int size : sizes) {
            due("begin(" + size + ", 5)", desk.begin(size, 5), BAD_VALUE);
        }
        for (int modulus : moduli) {
            due("begin(2, " + modulus + ")", desk.begin(2, modulus), BAD_VALUE);
            due("begin(3, " + modulus + ")", desk.begin(3, modulus), BAD_VALUE);
        }
        due("begin(4, 4)", desk.begin(4, 4), BAD_VALUE);
        unchanged(desk, before);
    }

    private void promise3Set() {
        promise = 3;
        PeirceDesk desk = new PeirceDesk();
        due("set(7, 0, 1, 4)", desk.set(7, 0, 1, 4), 0);
        due("exchanged", desk.entry(7, 1, 0), 4);
        due("set(7, 1, 0, 3)", desk.set(7, 1, 0, 3), 4);
        due("exchanged", desk.entry(7, 0, 1), 3);
        due("it is a change", desk.count(5), 2);
        due("set to the same", desk.set(7, 1, 0, 3), 3);
        due("that is one, too", desk.count(5), 3);
        due("set(7, 1, 1, 2)", desk.set(7, 1, 1, 2), 0);
        due("set(7, 1, 1, 0)", desk.set(7, 1, 1, 0), 2);
        element("only that", desk, 7, 0, 3, 0);
        due("the others are 0", desk.count(2), 128);
        long before = digest(desk);
        int[] wrong = {-1, 8, 9, NONE, LEAST, MOST};
        for (int register : wrong) {
            due("set(" + register + ", 0, 0, 1)", desk.set(register, 0, 0, 1), NO_SUCH);
        }
        int[] out = {-1, 2, 3, LEAST, MOST};
        for (int place : out) {
            due("set(0, " + place + ", 0, 1)", desk.set(0, place, 0, 1), NO_SUCH);
            due("set(0, 1, " + place + ", 1)", desk.set(0, 1, place, 1), NO_SUCH);
        }
        int[] numbers = {-1, 5, 6, LEAST, MOST};
        for (int number : numbers) {
            due("set(0, 0, 0, " + number + ")", desk.set(0, 0, 0, number), BAD_VALUE);
            due("set(8, 0, 0, " + number + ")", desk.set(8, 0, 0, number), NO_SUCH);
            due("set(0, 0, 2, " + number + ")", desk.set(0, 0, 2, number), NO_SUCH);
            due("set(0, -1, 0, " + number + ")", desk.set(0, -1, 0, number), NO_SUCH);
        }
        unchanged(desk, before);
        PeirceDesk three = desk(3, 11);
        due("set(0, 2, 0, 10)", three.set(0, 2, 0, 10), 0);
        due("exchanged", three.entry(0, 0, 2), 10);
        due("set(0, 2, 3, 1)", three.set(0, 2, 3, 1), NO_SUCH);
        due("set(0, 2, 2, 11)", three.set(0, 2, 2, 11), BAD_VALUE);
        PeirceDesk two = desk(2, 3);
        due("set(0, 0, 0, 3)", two.set(0, 0, 0, 3), BAD_VALUE);
        due("set(0, 0, 0, 2)", two.set(0, 0, 0, 2), 0);
    }

    private void promise4Base() {
        promise = 4;
        PeirceDesk desk = desk();
        due("base(0)", desk.base(0), 4);
        due("it is a change", desk.count(5), 6);
        element("base", desk, 8, 1, 2, 3);
        element("unit", desk, 9, 2, 2, 4);
        element("the registers stay", desk, 0, 1, 2, 3);
        desk.set(0, 0, 0, 0);
        element("the base stays when its register changes", desk, 8, 1, 2, 3);
        due("base(NONE)", desk.base(NONE), 1);
        element("base", desk, 8, 1, 0, 1);
        element("unit", desk, 9, 1, 0, 1);
        desk.base(3);
        long before = digest(desk);
        due("base(1)", desk.base(1), NOT_POSSIBLE);
        due("base(2)", desk.base(2), NOT_POSSIBLE);
        due("base(7)", desk.base(7), NOT_POSSIBLE);
        int[] wrong = {-1, -2, -5, -7, 8, 9, 10, LEAST, MOST};
        for (int register : wrong) {
            due("base(" + register + ")", desk.base(register), NO_SUCH);
        }
        unchanged(desk, before);
        Checks.write(desk, 4, 2, 1, 1);
        due("base(4)", desk.base(4), 1);
        element("base of the determinant 1", desk, 8, 2, 1, 1);
        element("unit", desk, 9, 1, 4, 2);
        PeirceDesk three = desk(3, 7);
        Checks.write(three, 5, 2, 1, 0, 3, 4, 6);
        due("base(5)", three.base(5), 5);
        element("unit", three, 9, 6, 3, 5, 1, 4, 1);
        three.base(NONE);
        element("unit", three, 9, 1, 0, 0, 1, 0, 1);
        due("count(3) by the identity matrix", three.count(3), 0xdf);
    }

    private void promise5Split() {
        promise = 5;
        PeirceDesk desk = desk();
        int changes = desk.count(5);
        due("split(1, 0, 5)", desk.split(1, 0, 5), 3);
        element("part 2", desk, 5, 1, 0, 0);
        element("part 1", desk, 6, 0, 2, 0);
        element("part 0", desk, 7, 0, 0, 3);
        desk.undo();
        due("it is one change", desk.count(5), changes - 1);
        due("split(1, 3, 4)", desk.split(1, 3, 4), 1);
        element("part 2 is 0", desk, 4, 0, 0, 0);
        element("part 1 alone", desk, 5, 0, 1, 0);
        due("split(1, 7, 0) of 0", desk.split(1, 7, 0), 0);
        due("all are 0", desk.count(2), 0x28);
        desk.undo();
        due("split(1, 0, 0), over itself", desk.split(1, 0, 0), 3);
        element("part 2", desk, 0, 1, 0, 0);
        element("part 1", desk, 1, 0, 2, 0);
        element("part 0", desk, 2, 0, 0, 3);
        desk.undo();
        Checks.write(desk, 4, 0, 0, 1);
        due("split(4, 0, 5)", desk.split(4, 0, 5), 3);
        element("part 2", desk, 5, 0, 0, 3);
        element("part 1", desk, 6, 0, 2, 0);
        element("part 0", desk, 7, 1, 0, 0);
        long before = digest(desk);
        due("split(0, 0, 0)", desk.split(0, 0, 0), NOT_POSSIBLE);
        int[] wrong = {-1, 8, 9, NONE, LEAST, MOST};
        for (int register : wrong) {
            due("split(" + register + ", 0, 0)", desk.split(register, 0, 0), NO_SUCH);
            due("split(1, " + register + ", 0)", desk.split(1, register, 0), NO_SUCH);
            due("split(0, 0, " + register + ")", desk.split(0, 0, register), NO_SUCH);
            due("split(1, 0, " + register + ")", desk.split(1, 0, register), NO_SUCH);
        }
        due("split(1, 0, 6)", desk.split(1, 0, 6), NO_SUCH);
        due("split(0, 0, 7)", desk.split(0, 0, 7), NO_SUCH);
        unchanged(desk, before);
        desk.base(3);
        due("B is not its own square then", desk.split(1, 0, 4), NOT_POSSIBLE);
        Checks.write(desk, 4, 3, 3, 3);
        due("split(4, 1, 5) by the base D", desk.split(4, 1, 5), 3);
        element("part 2", desk, 5, 4, 4, 4);
        element("part 1", desk, 6, 3, 0, 2);
        element("part 0", desk, 7, 4, 1, 4);
    }

    private void promise6Run() {
        promise = 6;
        PeirceDesk desk = desk();
        int changes = desk.count(5);
        typed(desk, "H:A+2*B");
        due("run()", desk.run(), 7);
        element("H:A+2*B", desk, 7, 3, 2, 3);
        due("the pad is empty", desk.count(4), 0);
        due("run() of an empty pad", desk.run(), BAD_TEXT);
        desk.undo();
        due("it is one change", desk.count(5), changes - 1);
        element("undone", desk, 7, 0, 0, 0);
        due("the pad stays empty", desk.count(4), 0);
        typed(desk, "A:A");
        due("run() to itself", desk.run(), 0);
        due("a change that changes nothing", desk.count(5), changes);
        typed(desk, "A:p(A,A)-A");
        due("run() over its own argument", desk.run(), 0);
        element("A:p(A,A)-A", desk, 0, 4, 1, 0);
        runs(desk, "E:9*i-0*A", 4, 4, 0, 4);
        runs(desk, "E:B-A-A", 4, 3, 3, 0);
        runs(desk, "E:B-(A-A)", 4, 1, 0, 0);
        runs(desk, "E:i-A", 4, 2, 4, 1);
        runs(desk, "E:2*(B+i)-p(i+i,B)", 4, 2, 0, 2);
        runs(desk, "E:((((((((((((((((((((((((((((B))))))))))))))))))))))))))))", 4, 1, 0, 0);
        runs(desk, "E:" + "(".repeat(25) + "i-(i-i)" + ")".repeat(25), 4, 1, 0, 1);
        typed(desk, "A:B=");
        long before = digest(desk);
        due("run() with a fault", desk.run(), BAD_TEXT);
        unchanged(desk, before);
        typed(desk, "v(C)=");
        due("run() with a fault, ahead of an inverse", desk.run(), BAD_TEXT);
        typed(desk, "A=B");
        before = digest(desk);
        due("run() of an equation", desk.run(), NOT_POSSIBLE);
        unchanged(desk, before);
        typed(desk, "A:i+v(C)");
        before = digest(desk);
        due("run() that stops", desk.run(), NOT_POSSIBLE);
        unchanged(desk, before);
    }

    private void runs(PeirceDesk desk, String formula, int register, int... upper) {
        typed(desk, formula);
        due("run() of " + formula, desk.run(), register);
        element(formula, desk, register, upper);
    }

    private void promise7Entry() {
        promise = 7;
        PeirceDesk desk = desk();
        desk.base(0);
        due("entry(0, 0, 0)", desk.entry(0, 0, 0), 1);
        due("entry(0, 1, 0)", desk.entry(0, 1, 0), 2);
        due("entry(0, 0, 1)", desk.entry(0, 0, 1), 2);
        due("entry(0, 1, 1)", desk.entry(0, 1, 1), 3);
        due("entry(7, 1, 1)", desk.entry(7, 1, 1), 0);
        due("entry(8, 1, 1)", desk.entry(8, 1, 1), 3);
        due("entry(9, 1, 1)", desk.entry(9, 1, 1), 4);
        int[] wrong = {-1, 10, NONE, LEAST, MOST};
        for (int register : wrong) {
            due("entry(" + register + ", 0, 0)", desk.entry(register, 0, 0), NO_SUCH);
        }
        int[] out = {-1, 2, 3, LEAST, MOST};
        for (int place : out) {
            due("entry(0, " + place + ", 0)", desk.entry(0, place, 0), NO_SUCH);
            due("entry(0, 0, " + place + ")", desk.entry(0, 0, place), NO_SUCH);
            due("entry(9, 1, " + place + ")", desk.entry(9, 1, place), NO_SUCH);
        }
        PeirceDesk three = desk(3, 5);
        due("entry(9, 2, 2)", three.entry(9, 2, 2), 1);
        due("entry(8, 2, 3)", three.entry(8, 2, 3), NO_SUCH);
        due("entry(8, 3, 2)", three.entry(8, 3, 2), NO_SUCH);
    }

    private void promise8Of() {
        promise = 8;
        PeirceDesk desk = desk();
        all(desk, 0, 4, 4, 2, 0, 1, 20, 2, NONE);
        all(desk, 1, 1, 0, 1, 1, 0, NONE, 2, NONE);
        all(desk, 2, 0, 0, 1, 0, 0, NONE, 2, 2);
        all(desk, 3, 0, 4, 2, 0, 1, 2, 2, NONE);
        all(desk, 7, 0, 0, 0, 1, 0, NONE, 1, 1);
        all(desk, 8, 2, 1, 2, 1, 1, 1, 1, NONE);
        all(desk, 9, 2, 1, 2, 1, 1, 1, 1, NONE);
        Checks.write(desk, 4, 2, 0, 2);
        all(desk, 4, 4, 4, 2, 0, 1, 4, 1, NONE);
        desk.base(3);
        all(desk, 1, 1, 0, 1, 0, 0, NONE, 2, 2);
        all(desk, 3, 0, 4, 2, 1, 1, 1, 1, NONE);
        all(desk, 9, 0, 4, 2, 1, 1, 1, 1, NONE);
        desk.base(4);
        all(desk, 8, 4, 4, 2, 0, 1, 2, 1, NONE);
        all(desk, 9, 1, 4, 2, 1, 1, 1, 1, NONE);
        int[] wrong = {-1, 10, 11, NONE, LEAST, MOST};
        for (int register : wrong) {
            due("of(" + register + ", 0)", desk.of(register, 0), NO_SUCH);
            due("of(" + register + ", 8)", desk.of(register, 8), NO_SUCH);
        }
        int[] what = {-1, 8, 9, LEAST, MOST};
        for (int each : what) {
            due("of(9, " + each + ")", desk.of(9, each), BAD_VALUE);
        }
        PeirceDesk seven = desk(2, 7);
        Checks.write(seven, 0, 2, 3, 3);
        due("degree, asked first", seven.of(0, 6), 2);
        PeirceDesk three = desk(3, 11);
        Checks.write(three, 0, 1, 1, 8, 6, 10, 7);
        due("the greatest order", three.of(0, 5), 1330);
        Checks.write(three, 1, 3, 0, 2, 7, 4, 1);
        all(three, 1, 0, 0, 2, 0, 0, NONE, 3, 3);
        Checks.write(three, 2, 0, 0, 1, 1, 0, 0);
        all(three, 2, 1, 10, 3, 0, 1, 2, 2, NONE);
        Checks.write(three, 3, 1, 0, 0, 0, 0, 0);
        all(three, 3, 1, 0, 1, 1, 0, NONE, 2, NONE);
        Checks.write(three, 4, 10, 10, 10, 10, 10, 10);
        all(three, 4, 8, 0, 1, 0, 0, NONE, 2, NONE);
        all(three, 9, 3, 1, 3, 1, 1, 1, 1, NONE);
    }

    private void all(PeirceDesk desk, int register, int... want) {
        for (int what = 0; what < want.length; what++) {
            due("of(" + register + ", " + what + ")", desk.of(register, what), want[what]);
        }
    }

    private void promise9Count() {
        promise = 9;
        PeirceDesk desk = desk();
        Checks.type(desk, "A+");
        int[] want = {2, 5, 0x0f, 0xf2, 2, 6};
        for (int what = 0; what < want.length; what++) {
            due("count(" + what + ")", desk.count(what), want[what]);
        }
        desk.base(3);
        due("own squares by another base", desk.count(3), 0xf8);
        int[] wrong = {-1, 6, 7, NONE, LEAST, MOST};
        for (int what : wrong) {
            due("count(" + what + ")", desk.count(what), BAD_VALUE);
        }
        PeirceDesk three = desk(3, 7);
        three.set(7, 2, 2, 1);
        three.set(6, 2, 0, 1);
        int[] other = {3, 7, 0xc0, 0xbf, 0, 3};
        for (int what = 0; what < other.length; what++) {
            due("count(" + what + ")", three.count(what), other[what]);
        }
    }

    private void promise10AreSame() {
        promise = 10;
        PeirceDesk desk = desk();
        due("areSame(0, 0)", desk.areSame(0, 0), 1);
        due("areSame(0, 1)", desk.areSame(0, 1), 0);
        due("areSame(4, 7)", desk.areSame(4, 7), 1);
        due("areSame(0, 2)", desk.areSame(0, 2), 0);
        desk.set(2, 1, 1, 3);
        due("areSame(0, 2)", desk.areSame(0, 2), 1);
        int[] wrong = {-1, 8, 9, NONE, LEAST, MOST};
        for (int register : wrong) {
            due("areSame(" + register + ", 0)", desk.areSame(register, 0), NO_SUCH);
            due("areSame(0, " + register + ")", desk.areSame(0, register), NO_SUCH);
        }
        PeirceDesk three = desk(3, 5);
        three.set(0, 2, 2, 1);
        due("areSame(0, 1) of the size 3", three.areSame(0, 1), 0);
    }

    private void promise11Power() {
        promise = 11;
        PeirceDesk desk = desk();
        powers(desk, 0, 0, 1, 0, 1);
        powers(desk, 0, 1, 1, 2, 3);
        powers(desk, 0, 2, 0, 3, 3);
        powers(desk, 0, 3, 1, 4, 0);
        powers(desk, 0, 20, 1, 0, 1);
        powers(desk, 0, 1999, 2, 2, 4);
        powers(desk, 0, 2000, 1, 0, 1);
        powers(desk, 2, 2, 0, 0, 0);
        powers(desk, 7, 0, 1, 0, 1);
        powers(desk, 7, 2000, 0, 0, 0);
        desk.base(3);
        powers(desk, 0, 0, 0, 1, 0);
        powers(desk, 0, 1, 1, 2, 3);
        powers(desk, 0, 2, 4, 2, 2);
        long before = digest(desk);
        int[] wrong = {-1, 8, 9, NONE, LEAST, MOST};
        for (int register : wrong) {
            due("power(" + register + ", 0, 0, 0)", desk.power(register, 0, 0, 0), NO_SUCH);
            due("power(" + register + ", -1, 0, 0)", desk.power(register, -1, 0, 0), NO_SUCH);
        }
        int[] out = {-1, 2, LEAST, MOST};
        for (int place : out) {
            due("power(0, 1, " + place + ", 0)", desk.power(0, 1, place, 0), NO_SUCH);
            due("power(0, 2001, 1, " + place + ")", desk.power(0, 2001, 1, place), NO_SUCH);
        }
        int[] powers = {-1, 2001, 2048, LEAST, MOST};
        for (int power : powers) {
            due("power(0, " + power + ", 0, 0)", desk.power(0, power, 0, 0), BAD_VALUE);
        }
        unchanged(desk, before);
        PeirceDesk three = desk(3, 3);
        three.set(0, 2, 2, 2);
        due("power(0, 3, 2, 2)", three.power(0, 3, 2, 2), 2);
        due("power(0, 3, 2, 3)", three.power(0, 3, 2, 3), NO_SUCH);
    }

    private void powers(PeirceDesk desk, int register, int power, int corner, int side, int other) {
        String call = "power(" + register + ", " + power + ", ";
        due(call + "0, 0)", desk.power(register, power, 0, 0), corner);
        due(call + "0, 1)", desk.power(register, power, 0, 1), side);
        due(call + "1, 0)", desk.power(register, power, 1, 0), side);
        due(call + "1, 1)", desk.power(register, power, 1, 1), other);
    }

    private void promise12Rule() {
        promise = 12;
        PeirceDesk desk = desk();
        due("rule(0, 1, 3, 0)", desk.rule(0, 1, 3, 0), 1);
        due("rule(0, 1, 3, 1)", desk.rule(0, 1, 3, 1), 0);
        due("rule(0, 1, 0, 1)", desk.rule(0, 1, 0, 1), 0);
        due("rule(0, 3, 0, 1)", desk.rule(0, 3, 0, 1), 2);
        due("rule(0, 4, 0, 1) of 0", desk.rule(0, 4, 0, 1), 0);
        due("rule(1, 0, 1, 1)", desk.rule(1, 0, 1, 1), 1);
        due("rule(0, 1, 1, 1)", desk.rule(0, 1, 1, 1), 0);
        desk.base(3);
        due("rule(0, 1, 3, 0)", desk.rule(0, 1, 3, 0), 1);
        due("rule(0, 1, 1, 1)", desk.rule(0, 1, 1, 1), 2);
        long before = digest(desk);
        int[] wrong = {-1, 8, 9, NONE, LEAST, MOST};
        for (int register : wrong) {
            due("rule(" + register + ", 0, 0, 0)", desk.rule(register, 0, 0, 0), NO_SUCH);
            due("rule(0, " + register + ", 0, 2)", desk.rule(0, register, 0, 2), NO_SUCH);
            due("rule(0, 0, " + register + ", -1)", desk.rule(0, 0, register, -1), NO_SUCH);
        }
        int[] what = {-1, 2, 3, LEAST, MOST};
        for (int each : what) {
            due("rule(0, 0, 0, " + each + ")", desk.rule(0, 0, 0, each), BAD_VALUE);
        }
        unchanged(desk, before);
    }

    private void promise13PartSize() {
        promise = 13;
        PeirceDesk desk = desk();
        sizes(desk, 1, 1, 1, 1);
        sizes(desk, 7, 3, 0, 0);
        Checks.write(desk, 4, 1, 0, 1);
        sizes(desk, 4, 0, 0, 3);
        long before = digest(desk);
        due("partSize(0, 0)", desk.partSize(0, 0), NOT_POSSIBLE);
        int[] wrong = {-1, 8, 9, NONE, LEAST, MOST};
        for (int register : wrong) {
            due("partSize(" + register + ", 0)", desk.partSize(register, 0), NO_SUCH);
            due("partSize(" + register + ", 3)", desk.partSize(register, 3), NO_SUCH);
        }
        int[] parts = {-1, 3, LEAST, MOST};
        for (int part : parts) {
            due("partSize(1, " + part + ")", desk.partSize(1, part), BAD_VALUE);
            due("partSize(0, " + part + ")", desk.partSize(0, part), BAD_VALUE);
        }
        unchanged(desk, before);
        desk.base(3);
        due("partSize(1, 0) by another base", desk.partSize(1, 0), NOT_POSSIBLE);
        sizes(desk, 3, 0, 0, 3);
        PeirceDesk three = desk(3, 3);
        sizes(three, 0, 6, 0, 0);
        three.set(0, 1, 1, 1);
        sizes(three, 0, 3, 2, 1);
        three.set(0, 0, 0, 1);
        sizes(three, 0, 1, 2, 3);
        three.set(0, 2, 2, 1);
        sizes(three, 0, 0, 0, 6);
    }

    private void sizes(PeirceDesk desk, int register, int zero, int one, int two) {
        due("partSize(" + register + ", 0)", desk.partSize(register, 0), zero);
        due("partSize(" + register + ", 1)", desk.partSize(register, 1), one);
        due("partSize(" + register + ", 2)", desk.partSize(register, 2), two);
    }

    private void promise14HowMany() {
        promise = 14;
        kinds(new PeirceDesk(), 6, 100, 9, 6);
        kinds(desk(2, 3), 6, 18, 1, 6);
        kinds(desk(2, 7), 10, 294, 1, 10);
        kinds(desk(2, 11), 14, 1210, 1, 14);
        PeirceDesk turned = desk(2, 11);
        Checks.write(turned, 0, 1, 0, 2);
        turned.base(0);
        kinds(turned, 12, 1210, 21, 12);
        PeirceDesk desk = new PeirceDesk();
        Checks.write(desk, 0, 3, 0, 1);
        desk.base(0);
        long before = digest(desk);
        kinds(desk, 8, 100, 1, 8);
        unchanged(desk, before);
        int[] wrong = {-1, 4, NONE, LEAST, MOST};
        PeirceDesk three = desk(3, 3);
        for (int kind : wrong) {
            due("howMany(" + kind + ")", desk.howMany(kind), BAD_VALUE);
            due("howMany(" + kind + ") of the size 3", three.howMany(kind), BAD_VALUE);
        }
        kinds(three, NOT_POSSIBLE, NOT_POSSIBLE, NOT_POSSIBLE, NOT_POSSIBLE);
    }

    private void kinds(PeirceDesk desk, int... want) {
        for (int kind = 0; kind < 4; kind++) {
            due("howMany(" + kind + ")", desk.howMany(kind), want[kind]);
        }
    }

    private void promise15Holds() {
        promise = 15;
        PeirceDesk desk = desk();
        holds(desk, "A=A", 1);
        holds(desk, "A=B", 0);
        holds(desk, "p(B,B)=B", 1);
        holds(desk, "p(A,A)=A", 0);
        holds(desk, "p(p(p(A,A),D),A)=p(p(A,A),p(D,A))", 1);
        holds(desk, "p(p(A,D),B)=p(A,p(D,B))", 0);
        holds(desk, "5*A=A-A", 1);
        holds(desk, "v(v(A))=A", 1);
        due("the pad stays", desk.count(4), 9);
        holds(desk, "", BAD_TEXT);
        holds(desk, "A:v(C)=", BAD_TEXT);
        holds(desk, "A:A", NOT_POSSIBLE);
        holds(desk, "A:v(C)", NOT_POSSIBLE);
        holds(desk, "v(C)=A", NOT_POSSIBLE);
        holds(desk, "A=v(B)", NOT_POSSIBLE);
        holds(desk, "A=0*v(B-B)", NOT_POSSIBLE);
        desk.base(0);
        holds(desk, "p(B,B)=B", 1);
        holds(desk, "p(D,D)=i", 0);
        holds(desk, "p(D,i)=D", 1);
        holds(desk, "u(A,v(A))=A", 1);
        holds(desk, "p(A,v(A))=i", 1);
        due("it is no change", desk.count(5), 6);
    }

    private void holds(PeirceDesk desk, String text, int want) {
        due("holds() of " + text, typed(desk, text).holds(), want);
    }

    private void promise16Stops() {
        promise = 16;
        PeirceDesk desk = desk();
        stops(desk, "A:v(A)", NONE);
        stops(desk, "A:v(C)", 2);
        stops(desk, "A=v(B)", 2);
        stops(desk, "v(B)=v(C)", 0);
        stops(desk, "v(A)=v(C)", 5);
        stops(desk, "A:v(v(C))", 4);
        stops(desk, "A:v(v(A)-v(A))", 2);
        stops(desk, "A:p(v(A),v(B))+v(C)", 9);
        stops(desk, "A:t(A,i,v(B))", 8);
        stops(desk, "A:u(v(C-2*C),A)", 4);
        stops(desk, "A:0*v(C)", 4);
        stops(desk, "A:i+3*(i-v(B))", 9);
        stops(desk, "A:v(C", BAD_TEXT);
        stops(desk, "", BAD_TEXT);
        stops(desk, "v(C)", BAD_TEXT);
        stops(desk, "A:v(5*i)", 2);
        stops(desk(2, 3), "A:v(5*i)", NONE);
        due("it is no change", desk.count(5), 6);
    }

    private void stops(PeirceDesk desk, String text, int want) {
        due("stops() of " + text, typed(desk, text).stops(), want);
    }

    private void promise17Put() {
        promise = 17;
        PeirceDesk desk = new PeirceDesk();
        due("put of one", desk.put('A'), 1);
        due("put of two", desk.put('=' << 8 | 'A'), 3);
        due("the order of the characters", desk.holds(), 1);
        due("put of eight", desk.put(Checks.packed("+i-i+A-B")), 11);
        due("put of eight", desk.fault(), NONE);
        due("put of the least code", desk.put(33), 12);
        due("put of the greatest code", desk.put(126), 13);
        due("put of eight of the greatest code", desk.put(0x7e7e7e7e7e7e7e7eL), 21);
        long before = digest(desk);
        long[] wrong = {0, 32, 127, 128, 255, 31, 'A' << 8, 'A' << 16 | 'A', 0x2041, 0x417f, 0x4120,
            -1, Long.MIN_VALUE, Long.MAX_VALUE, 0x8141414141414141L, 0x4100000000000041L, 0x4141414141414100L,
            0x4141414100414141L, 0x7f41414141414141L, 0x2041414141414141L, 1L << 8, 1L << 63, (1L << 32) + 'A'};
        for (long characters : wrong) {
            due("put(" + characters + ")", desk.put(characters), BAD_VALUE);
        }
        unchanged(desk, before);
        desk.wipe();
        for (int length = 8; length <= 56; length += 8) {
            due("put of eight", desk.put(Checks.packed("A=A+A-A+")), length);
        }
        due("put of five more than 55", desk.put(Checks.packed("12345")), TOO_MANY);
        due("put of a wrong one there", desk.put(0x4100), BAD_VALUE);
        due("put of four", desk.put(Checks.packed("1234")), 60);
        due("put at 60", desk.put('A'), TOO_MANY);
        due("put of a wrong one at 60", desk.put(' '), BAD_VALUE);
        due("put of none at 60", desk.put(0), BAD_VALUE);
        due("count(4)", desk.count(4), 60);
        due("it is no change", desk.count(5), 0);
    }

    private void promise18Wipe() {
        promise = 18;
        PeirceDesk desk = new PeirceDesk();
        due("wipe() of an empty pad", desk.wipe(), 0);
        Checks.type(desk, "A:B");
        due("wipe()", desk.wipe(), 3);
        due("count(4)", desk.count(4), 0);
        due("fault()", desk.fault(), 0);
        due("wipe() again", desk.wipe(), 0);
        Checks.type(desk, "B=B");
        due("holds() after it", desk.holds(), 1);
        due("it is no change", desk.count(5), 0);
    }

    private void promise19Fault() {
        promise = 19;
        String[] good = {"A:A", "H:H", "A=A", "A+B=C", "i=i", "A:i", "i-A=2*i", "0*A=9*(A)", "A:p(A,B)", "A:u(A,B)",
            "A:t(A,B,C)", "A:v(A)", "v(A)=A", "(A)=A", "A:((A))", "A:p(A+B-C,2*D)-t(i,i,i)", "A:2*v(3*(4*H))",
            "A:p(p(A,B),p(C,D))", "A:t(t(A,B,C),u(A,B),v(C))", "A=(A+A)", "3*A=A", "A:(p(A,B))",
            "A:p(A,B)+(A)", "A:t(A,B,(C))", "A:u(v(A),B)+v((A))"};
        for (String text : good) {
            fault(text, NONE);
        }
        /* The place stands ahead of each text. */
        String[] bad = {"0:", "0I", "0a", "0+A", "0-A", "0=", "0:A", "0)", "0,", "0*A", "0j", "0x(A)", "0@", "0~",
            "1A", "1AB", "1i:A", "1A(", "1A)", "1A,", "1A*", "1A2", "1Ai", "112*A", "12A", "12(", "22*3*A", "22*+A",
            "22*-A", "1p", "1v", "1pA", "1u:", "1v=", "1vA", "1t)", "2p(", "2v()", "2p()", "2p(,", "3p(A)", "3v(A,A)",
            "3p(A=", "5t(A,B)", "7t(A,B,C,", "5p(A,B,C)", "5u(A,B=", "2A:", "2A:=", "2A::", "2A:)", "3A:B=", "3A:B:",
            "3A:B)", "3A:B,", "3A:BC", "3A:B(", "3A:B*", "3A:B2", "2A=", "3A=B=", "3A=B:", "3A=B)", "2A==", "2A+",
            "2A+=", "2A++", "2A+-", "3A+B:", "2(A:", "2(A=", "3(A)", "3(A):", "2(A,", "3(A))", "3(A)B", "1(", "1()",
            "2(A", "4A=2*", "3A=2", "3A=2A", "4A:v(", "5A:v(A", "6A:v(A))", "3A=i:", "1iA", "1i(",
            "4A:(A:", "4A:(A=", "3A:A~", "2A:~", "2A:a", "2A:I", "3A=A!"};
        for (String entry : bad) {
            fault(entry.substring(1), entry.charAt(0) - '0');
        }
        fault("", 0);
        fault("(".repeat(60), 60);
        fault("A:" + "t(".repeat(29), 60);
        fault("A:" + "(".repeat(28) + "B" + ")".repeat(28), NONE);
        fault("A:" + "(".repeat(28) + "B" + ")".repeat(29), 59);
        fault("A:" + "v(".repeat(19) + "B" + ")".repeat(19), NONE);
        fault("A:" + "i+".repeat(28) + "i+", 60);
        fault("A:" + "i+".repeat(28) + "i-", 60);
        PeirceDesk desk = typed(desk(), "A:(B");
        long before = digest(desk);
        due("fault()", desk.fault(), 4);
        due("fault() again", desk.fault(), 4);
        unchanged(desk, before);
        desk.put(')');
        due("fault() of more", desk.fault(), NONE);
    }

    private void fault(String text, int want) {
        due("fault() of " + text, typed(new PeirceDesk(), text).fault(), want);
    }

    private void promise20Undo() {
        promise = 20;
        PeirceDesk desk = new PeirceDesk();
        due("undo() of nothing", desk.undo(), NOT_POSSIBLE);
        for (int number = 1; number <= 4; number++) {
            desk.set(0, 0, 0, number);
            due("changes that can be undone", desk.count(5), number);
        }
        desk.set(0, 1, 1, 1);
        desk.set(0, 1, 1, 2);
        desk.set(0, 1, 1, 3);
        due("at most six", desk.count(5), 6);
        int[] left = {5, 4, 3, 2, 1, 0};
        long[] states = {Checks.cells(4, 0, 2), Checks.cells(4, 0, 1), Checks.cells(4, 0, 0),
            Checks.cells(3, 0, 0), Checks.cells(2, 0, 0), Checks.cells(1, 0, 0)};
        for (int k = 0; k < 6; k++) {
            due("undo()", desk.undo(), left[k]);
            due("the state then", Checks.read(desk, 0), states[k]);
        }
        due("undo() of the dropped one", desk.undo(), NOT_POSSIBLE);
        element("nothing changes then", desk, 0, 1, 0, 0);
        desk.set(1, 0, 1, 2);
        desk.undo();
        due("undo() is no change", desk.undo(), NOT_POSSIBLE);
        undoOfEachChange();
        undoKeeps();
    }

    private void undoOfEachChange() {
        PeirceDesk desk = desk();
        desk.base(0);
        desk.save(1);
        desk.begin(3, 11);
        due("undo() of begin", desk.undo(), 5);
        due("size", desk.count(0), 2);
        due("modulus", desk.count(1), 5);
        element("base", desk, 8, 1, 2, 3);
        element("unit", desk, 9, 2, 2, 4);
        desk.base(NONE);
        due("undo() of base", desk.undo(), 5);
        element("base", desk, 8, 1, 2, 3);
        element("unit", desk, 9, 2, 2, 4);
        desk.split(1, 0, 0);
        due("undo() of split", desk.undo(), 5);
        element("A", desk, 0, 1, 2, 3);
        element("C", desk, 2, 1, 2, 4);
        desk.begin(3, 7);
        desk.restore(1);
        due("undo() of restore", desk.undo(), 5);
        due("size", desk.count(0), 3);
        due("modulus", desk.count(1), 7);
        desk.undo();
        element("A", desk, 0, 1, 2, 3);
        typed(desk, "A:i").run();
        due("undo() of run", desk.undo(), 4);
        element("A", desk, 0, 1, 2, 3);
    }

    private void undoKeeps() {
        PeirceDesk desk = desk();
        Checks.type(desk, "A=");
        desk.save(0);
        desk.set(0, 0, 0, 4);
        Checks.type(desk, "B");
        desk.undo();
        due("the pad stays", desk.count(4), 3);
        desk.undo();
        due("the slots stay", desk.restore(0), 2);
        element("D, from the slot", desk, 3, 0, 1, 0);
        int changes = desk.count(5);
        desk.set(9, 0, 0, 0);
        desk.begin(2, 4);
        desk.base(7);
        desk.split(0, 0, 0);
        desk.run();
        desk.restore(1);
        desk.wipe();
        desk.put('A');
        desk.save(1);
        desk.howMany(0);
        due("errors and what is no change", desk.count(5), changes);
    }

    private void promise21Save() {
        promise = 21;
        PeirceDesk desk = desk();
        due("save(0)", desk.save(0), 2);
        due("it is no change", desk.count(5), 6);
        long before = digest(desk);
        int[] wrong = {-1, 2, 3, NONE, LEAST, MOST};
        for (int slot : wrong) {
            due("save(" + slot + ")", desk.save(slot), BAD_VALUE);
        }
        unchanged(desk, before);
        due("the other slot is empty", desk.restore(1), NOT_POSSIBLE);
        desk.begin(3, 7);
        due("save(1)", desk.save(1), 3);
        desk.set(0, 2, 2, 6);
        due("save(0), overwritten", desk.save(0), 3);
        desk.begin(2, 3);
        due("restore(0)", desk.restore(0), 3);
        due("what was saved last", desk.entry(0, 2, 2), 6);
        due("restore(1)", desk.restore(1), 3);
        due("the other one", desk.entry(0, 2, 2), 0);
    }

    private void promise22Restore() {
        promise = 22;
        PeirceDesk desk = desk();
        desk.base(0);
        desk.save(0);
        Checks.type(desk, "A=");
        desk.begin(3, 11);
        desk.undo();
        desk.begin(3, 7);
        desk.set(0, 0, 0, 6);
        desk.undo();
        desk.undo();
        int changes = desk.count(5);
        due("restore(0)", desk.restore(0), 2);
        due("it is a change", desk.count(5), changes + 1);
        due("the pad stays", desk.count(4), 2);
        due("modulus", desk.count(1), 5);
        element("A", desk, 0, 1, 2, 3);
        element("D", desk, 3, 0, 1, 0);
        element("base", desk, 8, 1, 2, 3);
        element("unit", desk, 9, 2, 2, 4);
        desk.set(0, 0, 0, 4);
        due("restore(0) again", desk.restore(0), 2);
        element("the slot keeps it", desk, 0, 1, 2, 3);
        desk.begin(3, 7);
        due("restore(0) from another size", desk.restore(0), 2);
        element("A", desk, 0, 1, 2, 3);
        long before = digest(desk);
        due("restore(1)", desk.restore(1), NOT_POSSIBLE);
        int[] wrong = {-1, 2, 3, NONE, LEAST, MOST};
        for (int slot : wrong) {
            due("restore(" + slot + ")", desk.restore(slot), BAD_VALUE);
        }
        unchanged(desk, before);
    }

    /** The terms, "Operations": each one by the identity matrix and by another base. */
    private void operations() {
        promise = 0;
        PeirceDesk desk = desk();
        runs(desk, "E:p(A,D)", 4, 2, 2, 2);
        runs(desk, "E:p(A,B)", 4, 1, 1, 0);
        runs(desk, "E:u(A,B)", 4, 1, 2, 4);
        runs(desk, "E:u(B,A)", 4, 1, 0, 0);
        runs(desk, "E:t(A,B,D)", 4, 0, 3, 2);
        runs(desk, "E:t(D,B,A)", 4, 0, 3, 2);
        runs(desk, "E:t(B,A,D)", 4, 2, 3, 0);
        runs(desk, "E:v(A)", 4, 2, 2, 4);
        desk.base(3);
        runs(desk, "E:i", 4, 0, 1, 0);
        runs(desk, "E:p(A,B)", 4, 2, 4, 0);
        runs(desk, "E:u(A,B)", 4, 4, 1, 4);
        runs(desk, "E:u(B,A)", 4, 3, 0, 0);
        runs(desk, "E:t(A,B,i)", 4, 2, 4, 0);
        runs(desk, "E:t(A,A,B)", 4, 2, 1, 0);
        runs(desk, "E:v(A)", 4, 4, 2, 2);
        runs(desk, "E:p(A,i)-A", 4, 0, 0, 0);
    }
}
