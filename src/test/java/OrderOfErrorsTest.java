/**
 * Conventions: a method names its errors in the order in which they are checked, and the first one
 * that applies is returned. Each test is for one method and two of its errors that apply at once.
 */
public final class OrderOfErrorsTest extends Edges {
    private static final int[] NO_REGISTERS = {-1, 8, NONE, LEAST, MOST};

    public static void main(String[] arguments) {
        runAll(OrderOfErrorsTest.class);
    }

    @Sentence("Conventions, begin: both arguments out of range are one BAD_VALUE")
    void beginBoth() {
        PeirceDesk desk = new PeirceDesk();
        due("begin(4, 4)", desk.begin(4, 4), BAD_VALUE);
        due("begin(1, 2)", desk.begin(1, 2), BAD_VALUE);
        due("begin(LEAST, MOST)", desk.begin(LEAST, MOST), BAD_VALUE);
    }

    @Sentence("Conventions, set: NO_SUCH of the register ahead of BAD_VALUE")
    void setRegisterAheadOfNumber() {
        PeirceDesk desk = new PeirceDesk();
        each("set(register, 0, 0, 5)", register -> desk.set(register, 0, 0, 5), NO_SUCH, NO_REGISTERS);
        each("set(register, 0, 0, -1)", register -> desk.set(register, 0, 0, -1), NO_SUCH, NO_REGISTERS);
    }

    @Sentence("Conventions, set: NO_SUCH of the row ahead of BAD_VALUE")
    void setRowAheadOfNumber() {
        PeirceDesk desk = new PeirceDesk();
        each("set(0, row, 0, 5)", row -> desk.set(0, row, 0, 5), NO_SUCH, -1, 2, LEAST, MOST);
        each("set(0, row, 0, -1)", row -> desk.set(0, row, 0, -1), NO_SUCH, -1, 2, LEAST, MOST);
    }

    @Sentence("Conventions, set: NO_SUCH of the column ahead of BAD_VALUE")
    void setColumnAheadOfNumber() {
        PeirceDesk desk = new PeirceDesk();
        each("set(0, 0, column, 5)", column -> desk.set(0, 0, column, 5), NO_SUCH, -1, 2, LEAST, MOST);
        each("set(0, 0, column, -1)", column -> desk.set(0, 0, column, -1), NO_SUCH, -1, 2, LEAST, MOST);
    }

    @Sentence("Conventions, split: NO_SUCH of the register ahead of NOT_POSSIBLE")
    void splitRegisterAheadOfSquare() {
        PeirceDesk desk = filled();
        each("split(0, register, 0)", register -> desk.split(0, register, 0), NO_SUCH, NO_REGISTERS);
    }

    @Sentence("Conventions, split: NO_SUCH of to (above 5, too) ahead of NOT_POSSIBLE")
    void splitToAheadOfSquare() {
        PeirceDesk desk = filled();
        each("split(0, 1, to)", to -> desk.split(0, 1, to), NO_SUCH, -1, 6, 7, 8, NONE, LEAST, MOST);
    }

    @Sentence("Conventions, run: BAD_TEXT ahead of NOT_POSSIBLE of an equation")
    void runFaultAheadOfEquation() {
        PeirceDesk desk = filled();
        for (String text : new String[] {"A=", "A=B+", "A=B)", "A=B=", "A+B=2", "=A"}) {
            due("run() of " + text, run(desk, text), BAD_TEXT);
        }
    }

    @Sentence("Conventions, run: BAD_TEXT ahead of NOT_POSSIBLE of what stops")
    void runFaultAheadOfStop() {
        PeirceDesk desk = filled();
        for (String text : new String[] {"A:v(C)+", "A:v(C))", "A:v(C)=", "A:v(v(C)", "A:v(C)C", "v(C)=v(B)-"}) {
            due("run() of " + text, run(desk, text), BAD_TEXT);
        }
    }

    @Sentence("Conventions, of: NO_SUCH ahead of BAD_VALUE")
    void ofRegisterAheadOfWhat() {
        PeirceDesk desk = new PeirceDesk();
        each("of(register, 8)", register -> desk.of(register, 8), NO_SUCH, -1, 10, NONE, LEAST, MOST);
        each("of(register, -1)", register -> desk.of(register, -1), NO_SUCH, -1, 10, NONE, LEAST, MOST);
    }

    @Sentence("Conventions, power: NO_SUCH of the register ahead of BAD_VALUE")
    void powerRegisterAheadOfPower() {
        PeirceDesk desk = new PeirceDesk();
        each("power(register, 2001, 0, 0)", register -> desk.power(register, 2001, 0, 0), NO_SUCH, NO_REGISTERS);
        each("power(register, -1, 0, 0)", register -> desk.power(register, -1, 0, 0), NO_SUCH, NO_REGISTERS);
    }

    @Sentence("Conventions, power: NO_SUCH of the row ahead of BAD_VALUE")
    void powerRowAheadOfPower() {
        PeirceDesk desk = new PeirceDesk();
        each("power(0, 2001, row, 0)", row -> desk.power(0, 2001, row, 0), NO_SUCH, -1, 2, LEAST, MOST);
        each("power(0, -1, row, 0)", row -> desk.power(0, -1, row, 0), NO_SUCH, -1, 2, LEAST, MOST);
    }

    @Sentence("Conventions, power: NO_SUCH of the column ahead of BAD_VALUE")
    void powerColumnAheadOfPower() {
        PeirceDesk desk = new PeirceDesk();
        each("power(0, 2001, 0, column)", column -> desk.power(0, 2001, 0, column), NO_SUCH, -1, 2, LEAST, MOST);
        each("power(0, -1, 0, column)", column -> desk.power(0, -1, 0, column), NO_SUCH, -1, 2, LEAST, MOST);
    }

    @Sentence("Conventions, rule: NO_SUCH of a ahead of BAD_VALUE")
    void ruleAAheadOfWhat() {
        PeirceDesk desk = new PeirceDesk();
        each("rule(a, 0, 0, 2)", a -> desk.rule(a, 0, 0, 2), NO_SUCH, NO_REGISTERS);
        each("rule(a, 0, 0, -1)", a -> desk.rule(a, 0, 0, -1), NO_SUCH, NO_REGISTERS);
    }

    @Sentence("Conventions, rule: NO_SUCH of b ahead of BAD_VALUE")
    void ruleBAheadOfWhat() {
        PeirceDesk desk = new PeirceDesk();
        each("rule(0, b, 0, 2)", b -> desk.rule(0, b, 0, 2), NO_SUCH, NO_REGISTERS);
        each("rule(0, b, 0, -1)", b -> desk.rule(0, b, 0, -1), NO_SUCH, NO_REGISTERS);
    }

    @Sentence("Conventions, rule: NO_SUCH of c ahead of BAD_VALUE")
    void ruleCAheadOfWhat() {
        PeirceDesk desk = new PeirceDesk();
        each("rule(0, 0, c, 2)", c -> desk.rule(0, 0, c, 2), NO_SUCH, NO_REGISTERS);
        each("rule(0, 0, c, -1)", c -> desk.rule(0, 0, c, -1), NO_SUCH, NO_REGISTERS);
    }

    @Sentence("Conventions, partSize: NO_SUCH ahead of BAD_VALUE")
    void partSizeRegisterAheadOfPart() {
        PeirceDesk desk = filled();
        each("partSize(register, 3)", register -> desk.partSize(register, 3), NO_SUCH, NO_REGISTERS);
        each("partSize(register, -1)", register -> desk.partSize(register, -1), NO_SUCH, NO_REGISTERS);
    }

    @Sentence("Conventions, partSize: BAD_VALUE ahead of NOT_POSSIBLE")
    void partSizePartAheadOfSquare() {
        PeirceDesk desk = filled();
        each("partSize(0, part)", part -> desk.partSize(0, part), BAD_VALUE, -1, 3, NONE, LEAST, MOST);
    }

    @Sentence("Conventions, howMany: BAD_VALUE ahead of NOT_POSSIBLE")
    void howManyKindAheadOfSize() {
        PeirceDesk desk = desk(3, 3);
        each("howMany(kind)", desk::howMany, BAD_VALUE, -1, 4, NONE, LEAST, MOST);
    }

    @Sentence("Conventions, holds: BAD_TEXT ahead of NOT_POSSIBLE of a formula")
    void holdsFaultAheadOfFormula() {
        PeirceDesk desk = filled();
        for (String text : new String[] {"A:", "A:B+", "A:B)", "A:B=", "A:2", "A:B=C"}) {
            due("holds() of " + text, typed(desk, text).holds(), BAD_TEXT);
        }
    }

    @Sentence("Conventions, holds: BAD_TEXT ahead of NOT_POSSIBLE of what stops")
    void holdsFaultAheadOfStop() {
        PeirceDesk desk = filled();
        for (String text : new String[] {"v(C)=", "v(C)=A)", "v(C)=A=", "A=v(C)+", "v(C)", "A=v(C"}) {
            due("holds() of " + text, typed(desk, text).holds(), BAD_TEXT);
        }
    }

    @Sentence("Conventions, stops: BAD_TEXT ahead of where it stops")
    void stopsFaultAheadOfStop() {
        PeirceDesk desk = filled();
        for (String text : new String[] {"A:v(C)+", "v(C)=", "v(C)", "A:v(C)A", "A=v(B))"}) {
            due("stops() of " + text, typed(desk, text).stops(), BAD_TEXT);
        }
    }

    @Sentence("Conventions, put: BAD_VALUE of no character ahead of TOO_MANY")
    void putNothingAheadOfTooMany() {
        due("put(0)", full().put(0), BAD_VALUE);
    }

    @Sentence("Conventions, put: BAD_VALUE of a code ahead of TOO_MANY")
    void putCodeAheadOfTooMany() {
        PeirceDesk desk = full();
        due("put(32)", desk.put(32), BAD_VALUE);
        due("put(127)", desk.put(127), BAD_VALUE);
        due("put of eight", desk.put(0x4141414141414120L), BAD_VALUE);
        due("put of eight", desk.put(0x7f41414141414141L), BAD_VALUE);
        due("put of one that is right", desk.put('A'), TOO_MANY);
    }

    @Sentence("Conventions, put: BAD_VALUE of a bit above 8 bits that are 0 ahead of TOO_MANY")
    void putGapAheadOfTooMany() {
        PeirceDesk desk = full();
        due("put(0x410041)", desk.put(0x410041L), BAD_VALUE);
        due("put(0x4100)", desk.put(0x4100L), BAD_VALUE);
        due("put(0x4100000000000041)", desk.put(0x4100000000000041L), BAD_VALUE);
        due("put(1 << 63 | 'A')", desk.put(1L << 63 | 'A'), BAD_VALUE);
    }

    private static PeirceDesk full() {
        PeirceDesk desk = new PeirceDesk();
        Checks.type(desk, "A".repeat(60));
        return desk;
    }

    @Sentence("Conventions, restore: BAD_VALUE, not NOT_POSSIBLE, of a slot that there is not")
    void restoreSlotAheadOfNothing() {
        PeirceDesk desk = new PeirceDesk();
        each("restore(slot)", desk::restore, BAD_VALUE, -1, 2, NONE, LEAST, MOST);
    }

    @Sentence("Conventions: NONE is returned only if no error applies: of")
    void noneOfOnlyWithoutError() {
        PeirceDesk desk = new PeirceDesk();
        due("of(0, 5)", desk.of(0, 5), NONE);
        due("of(9, 7)", desk.of(9, 7), NONE);
        due("of(10, 5)", desk.of(10, 5), NO_SUCH);
        due("of(10, 7)", desk.of(10, 7), NO_SUCH);
    }

    @Sentence("Conventions: NONE is returned only if no error applies: stops")
    void noneOfStopsOnlyWithoutError() {
        PeirceDesk desk = filled();
        due("stops() of A:A", typed(desk, "A:A").stops(), NONE);
        due("stops() of A:A+", typed(desk, "A:A+").stops(), BAD_TEXT);
        due("stops() of nothing", typed(desk, "").stops(), BAD_TEXT);
    }

    @Sentence("Conventions, promise 4: NONE is a register for base alone")
    void noneIsNoRegisterElsewhere() {
        PeirceDesk desk = new PeirceDesk();
        due("set(NONE, 0, 0, 1)", desk.set(NONE, 0, 0, 1), NO_SUCH);
        due("split(NONE, 0, 0)", desk.split(NONE, 0, 0), NO_SUCH);
        due("split(0, NONE, 0)", desk.split(0, NONE, 0), NO_SUCH);
        due("split(0, 0, NONE)", desk.split(0, 0, NONE), NO_SUCH);
        due("entry(NONE, 0, 0)", desk.entry(NONE, 0, 0), NO_SUCH);
        due("of(NONE, 0)", desk.of(NONE, 0), NO_SUCH);
        due("areSame(NONE, 0)", desk.areSame(NONE, 0), NO_SUCH);
        due("areSame(0, NONE)", desk.areSame(0, NONE), NO_SUCH);
        due("areSame(NONE, NONE)", desk.areSame(NONE, NONE), NO_SUCH);
        due("power(NONE, 1, 0, 0)", desk.power(NONE, 1, 0, 0), NO_SUCH);
        due("rule(NONE, 0, 0, 0)", desk.rule(NONE, 0, 0, 0), NO_SUCH);
        due("partSize(NONE, 0)", desk.partSize(NONE, 0), NO_SUCH);
        due("base(NONE)", desk.base(NONE), 1);
    }
}
