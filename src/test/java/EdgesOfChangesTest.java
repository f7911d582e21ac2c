/** The boundary sentences of the promises 1 to 6: a new object, begin, set, base, split, run. */
public final class EdgesOfChangesTest extends Edges {
    public static void main(String[] arguments) {
        runAll(EdgesOfChangesTest.class);
    }

    // ---- promise 1

    @Sentence("Promise 1: a new desk has an empty pad")
    void newPad() {
        PeirceDesk desk = new PeirceDesk();
        due("count(4)", desk.count(4), 0);
        due("wipe()", desk.wipe(), 0);
    }

    @Sentence("Promise 1: a new desk has nothing to be undone")
    void newHistory() {
        PeirceDesk desk = new PeirceDesk();
        due("count(5)", desk.count(5), 0);
        due("undo()", desk.undo(), NOT_POSSIBLE);
    }

    @Sentence("Promise 1: a new desk has nothing in its slots")
    void newSlots() {
        PeirceDesk desk = new PeirceDesk();
        each("restore", desk::restore, NOT_POSSIBLE, 0, 1);
    }

    @Sentence("Promise 1: a new desk has nothing of an older one")
    void newAmongOthers() {
        String fresh = state(new PeirceDesk());
        PeirceDesk older = filled();
        older.base(0);
        older.save(0);
        Checks.type(older, "A=");
        PeirceDesk newer = new PeirceDesk();
        dueText("a new desk beside another", state(newer), fresh);
        due("restore(0)", newer.restore(0), NOT_POSSIBLE);
        newer.set(0, 0, 0, 4);
        due("entry(0, 0, 0) of the other", older.entry(0, 0, 0), 1);
    }

    // ---- promise 2

    @Sentence("Promise 2: begin, size 2 or 3, BAD_VALUE if an argument is out of range")
    void beginSize() {
        for (int modulus : MODULI) {
            PeirceDesk desk = new PeirceDesk();
            range("begin(size, " + modulus + ")", size -> desk.begin(size, modulus), 2, 3, BAD_VALUE);
            each("begin(size, " + modulus + ")", size -> desk.begin(size, modulus), BAD_VALUE, -3, -2, 0, 1, 5, NONE);
        }
    }

    @Sentence("Promise 2: begin, modulus 3, 5, 7 or 11, BAD_VALUE if an argument is out of range")
    void beginModulus() {
        for (int size : SIZES) {
            PeirceDesk desk = desk(size, 5);
            each("begin(" + size + ", modulus)", modulus -> desk.begin(size, modulus), size, MODULI);
            each("begin(" + size + ", modulus)", modulus -> desk.begin(size, modulus), BAD_VALUE,
                    LEAST, -11, -7, -5, -3, -1, 0, 1, 2, 4, 6, 8, 9, 10, 12, 13, 15, 17, MOST, NONE);
        }
    }

    @Sentence("Promise 2: begin takes the size and the modulus that are given")
    void beginTakes() {
        for (int size : SIZES) {
            for (int modulus : MODULI) {
                PeirceDesk desk = desk(size, modulus);
                due("count(0)", desk.count(0), size);
                due("count(1)", desk.count(1), modulus);
            }
        }
    }

    @Sentence("Promise 2: begin returns the previous size, also if it is the same")
    void beginReturns() {
        PeirceDesk desk = new PeirceDesk();
        due("begin(2, 5) at first", desk.begin(2, 5), 2);
        due("begin(3, 5) from 2", desk.begin(3, 5), 2);
        due("begin(3, 3) from 3", desk.begin(3, 3), 3);
        due("begin(2, 3) from 3", desk.begin(2, 3), 3);
        due("begin(2, 11) from 2", desk.begin(2, 11), 2);
    }

    @Sentence("Promise 2: begin, all registers are 0, the first and the last, also at the same size and modulus")
    void beginClears() {
        for (int size : SIZES) {
            PeirceDesk desk = desk(size, 5);
            for (int register = 0; register < 8; register++) {
                for (int place = 0; place < size; place++) {
                    for (int other = 0; other <= place; other++) {
                        desk.set(register, place, other, 4);
                    }
                }
            }
            desk.begin(size, 5);
            due("count(2)", desk.count(2), 0);
            for (int register = 0; register < 8; register++) {
                element("after begin", desk, register, new int[size * (size + 1) / 2]);
            }
        }
    }

    @Sentence("Promise 2: begin, nothing of the size 3 is left at the size 2, nor comes back")
    void beginForgetsTheThirdRow() {
        PeirceDesk desk = desk(3, 5);
        Checks.write(desk, 0, 1, 2, 3, 4, 1, 2);
        desk.begin(2, 5);
        due("of(0, 2)", desk.of(0, 2), 0);
        due("areSame(0, 1)", desk.areSame(0, 1), 1);
        desk.begin(3, 5);
        element("the size 3 again", desk, 0, 0, 0, 0, 0, 0, 0);
    }

    @Sentence("Promise 2: begin, the base is the identity matrix, also at the same size and modulus")
    void beginBase() {
        PeirceDesk desk = filled();
        desk.base(0);
        desk.begin(2, 5);
        element("the base", desk, 8, 1, 0, 1);
        element("the unit", desk, 9, 1, 0, 1);
        desk.begin(3, 7);
        element("the base", desk, 8, 1, 0, 0, 1, 0, 1);
        element("the unit", desk, 9, 1, 0, 0, 1, 0, 1);
    }

    @Sentence("Promise 2: begin is a change, also if nothing is different then")
    void beginIsChange() {
        PeirceDesk desk = new PeirceDesk();
        desk.begin(2, 5);
        due("count(5)", desk.count(5), 1);
        desk.begin(3, 7);
        due("count(5)", desk.count(5), 2);
        due("undo()", desk.undo(), 1);
        due("count(0)", desk.count(0), 2);
        due("count(1)", desk.count(1), 5);
    }

    @Sentence("Promise 2: begin leaves the pad, the history and the slots")
    void beginLeaves() {
        PeirceDesk desk = filled();
        desk.save(1);
        Checks.type(desk, "C=C");
        desk.begin(3, 3);
        due("count(5)", desk.count(5), 6);
        due("holds()", desk.holds(), 1);
        due("wipe()", desk.wipe(), 3);
        due("restore(1)", desk.restore(1), 2);
        element("from the slot", desk, 0, 1, 2, 3);
        desk.undo();
        desk.undo();
        element("from the history", desk, 0, 1, 2, 3);
    }

    // ---- promise 3

    @Sentence("Promise 3: set, NO_SUCH if there is no such register")
    void setRegister() {
        for (int size : SIZES) {
            PeirceDesk desk = desk(size, 5);
            range("set(register, 0, 0, 1)", register -> desk.set(register, 0, 0, 1), 0, 7, NO_SUCH);
            each("set(register, 0, 0, 1)", register -> desk.set(register, 0, 0, 1), NO_SUCH, 9, 10, NONE);
        }
    }

    @Sentence("Promise 3: set, NO_SUCH if there is no such row, the row 2 at the size 2 among them")
    void setRow() {
        for (int size : SIZES) {
            PeirceDesk desk = desk(size, 5);
            range("set(0, row, 0, 1)", row -> desk.set(0, row, 0, 1), 0, size - 1, NO_SUCH);
            range("set(7, row, 1, 1)", row -> desk.set(7, row, size - 1, 1), 0, size - 1, NO_SUCH);
        }
        due("set(0, 2, 2, 1) at the size 2", new PeirceDesk().set(0, 2, 2, 1), NO_SUCH);
    }

    @Sentence("Promise 3: set, NO_SUCH if there is no such column, the column 2 at the size 2 among them")
    void setColumn() {
        for (int size : SIZES) {
            PeirceDesk desk = desk(size, 5);
            range("set(0, 0, column, 1)", column -> desk.set(0, 0, column, 1), 0, size - 1, NO_SUCH);
            range("set(7, 1, column, 1)", column -> desk.set(7, size - 1, column, 1), 0, size - 1, NO_SUCH);
        }
    }

    @Sentence("Promise 3: set, number 0 to the modulus less 1, BAD_VALUE if number is out of range")
    void setNumber() {
        for (int modulus : MODULI) {
            PeirceDesk desk = desk(2, modulus);
            range("set(0, 0, 0, number)", number -> desk.set(0, 0, 0, number), 0, modulus - 1, BAD_VALUE);
            range("set(0, 0, 1, number)", number -> desk.set(0, 0, 1, number), 0, modulus - 1, BAD_VALUE);
            each("set(0, 0, 0, number)", number -> desk.set(0, 0, 0, number), BAD_VALUE, NONE, 2 * modulus, 12);
        }
    }

    @Sentence("Promise 3: set changes a number of a register, to the least and to the greatest one, and no other")
    void setChanges() {
        PeirceDesk desk = desk(2, 11);
        desk.set(7, 1, 1, 10);
        element("7 after set to 10", desk, 7, 0, 0, 10);
        desk.set(0, 0, 0, 10);
        element("0 after set to 10", desk, 0, 10, 0, 0);
        element("7 beside it", desk, 7, 0, 0, 10);
        desk.set(7, 1, 1, 0);
        element("7 after set to 0", desk, 7, 0, 0, 0);
        due("count(2)", desk.count(2), 1);
    }

    @Sentence("Promise 3: set changes the one with row and column exchanged, too")
    void setExchanged() {
        for (int size : SIZES) {
            PeirceDesk desk = desk(size, 7);
            int last = size - 1;
            desk.set(0, 0, last, 3);
            due("the exchanged one", desk.entry(0, last, 0), 3);
            due("the one itself", desk.entry(0, 0, last), 3);
            due("set back to front", desk.set(0, last, 0, 5), 3);
            due("the exchanged one", desk.entry(0, 0, last), 5);
            due("the one itself", desk.entry(0, last, 0), 5);
        }
    }

    @Sentence("Promise 3: set returns the previous number, also if it is the same")
    void setReturns() {
        PeirceDesk desk = new PeirceDesk();
        due("set(0, 0, 1, 4) from 0", desk.set(0, 0, 1, 4), 0);
        due("set(0, 1, 0, 4) from 4", desk.set(0, 1, 0, 4), 4);
        due("set(0, 0, 1, 1) from 4", desk.set(0, 0, 1, 1), 4);
        due("set(0, 0, 1, 0) from 1", desk.set(0, 0, 1, 0), 1);
        due("set(0, 0, 1, 0) from 0", desk.set(0, 0, 1, 0), 0);
    }

    @Sentence("Promise 3: set is a change, also if nothing is different then")
    void setIsChange() {
        PeirceDesk desk = new PeirceDesk();
        desk.set(0, 0, 0, 0);
        due("count(5)", desk.count(5), 1);
        desk.set(0, 0, 1, 2);
        due("count(5)", desk.count(5), 2);
        due("undo()", desk.undo(), 1);
        element("undone", desk, 0, 0, 0, 0);
    }

    // ---- promise 4

    @Sentence("Promise 4: base, NO_SUCH if there is no such register")
    void baseRegister() {
        for (int size : SIZES) {
            PeirceDesk desk = desk(size, 5);
            for (int register = 0; register < 8; register++) {
                diagonal(desk, register, size == 2 ? new int[] {1, 2} : new int[] {1, 2, 1});
            }
            range("base(register)", desk::base, 0, 7, NO_SUCH);
            each("base(register)", desk::base, NO_SUCH, -2, -3, -4, -5, -7, 9, 10);
        }
    }

    @Sentence("Promise 4: base, NONE: the identity matrix")
    void baseNone() {
        for (int size : SIZES) {
            PeirceDesk desk = desk(size, 5);
            diagonal(desk, 0, 2, 3, 2);
            desk.base(0);
            due("base(NONE)", desk.base(NONE), 1);
            element("the base", desk, 8, size == 2 ? new int[] {1, 0, 1} : new int[] {1, 0, 0, 1, 0, 1});
            element("the unit", desk, 9, size == 2 ? new int[] {1, 0, 1} : new int[] {1, 0, 0, 1, 0, 1});
            due("base(NONE) again", desk.base(NONE), 1);
        }
    }

    @Sentence("Promise 4: base returns its determinant, from 1 to the modulus less 1")
    void baseReturns() {
        for (int modulus : MODULI) {
            for (int number = 1; number < modulus; number++) {
                PeirceDesk desk = desk(2, modulus);
                diagonal(desk, 0, 1, number);
                due("base(0) of " + number, desk.base(0), number);
                PeirceDesk three = desk(3, modulus);
                diagonal(three, 7, 1, modulus - 1, number);
                due("base(7) of " + (modulus - number), three.base(7), modulus - number);
            }
        }
        PeirceDesk desk = filled();
        due("base(3) of 0 1 / 1 0", desk.base(3), 4);
    }

    @Sentence("Promise 4: base, NOT_POSSIBLE if the determinant is 0")
    void baseOfDeterminantZero() {
        PeirceDesk desk = filled();
        Checks.write(desk, 5, 2, 1, 3);
        each("base(register)", desk::base, NOT_POSSIBLE, 1, 2, 4, 5, 7);
        desk.base(3);
        each("base(register) by D", desk::base, NOT_POSSIBLE, 1, 2, 4, 5, 7);
        PeirceDesk three = desk(3, 3);
        diagonal(three, 0, 1, 1, 0);
        Checks.write(three, 1, 1, 1, 1, 1, 1, 1);
        Checks.write(three, 2, 2, 1, 0, 2, 0, 1);
        each("base(register) of the size 3", three::base, NOT_POSSIBLE, 0, 1, 2, 3);
    }

    @Sentence("Promise 4: base takes the element of a register as the base")
    void baseTakes() {
        PeirceDesk desk = filled();
        desk.base(0);
        element("the base", desk, 8, 1, 2, 3);
        desk.base(3);
        element("the base", desk, 8, 0, 1, 0);
        desk.set(3, 0, 0, 4);
        element("the base, when its register changes", desk, 8, 0, 1, 0);
        element("the unit, when its register changes", desk, 9, 0, 1, 0);
    }

    @Sentence("Promise 4: base, the registers stay")
    void baseLeaves() {
        PeirceDesk desk = filled();
        diagonal(desk, 7, 4, 4);
        desk.base(0);
        desk.base(NONE);
        desk.base(3);
        element("A", desk, 0, 1, 2, 3);
        element("B", desk, 1, 1, 0, 0);
        element("C", desk, 2, 1, 2, 4);
        element("D", desk, 3, 0, 1, 0);
        element("H", desk, 7, 4, 0, 4);
    }

    @Sentence("Promise 4: base is a change, also if nothing is different then")
    void baseIsChange() {
        PeirceDesk desk = new PeirceDesk();
        desk.base(NONE);
        due("count(5)", desk.count(5), 1);
        Checks.write(desk, 0, 0, 1, 0);
        desk.base(0);
        due("count(5)", desk.count(5), 5);
        desk.base(0);
        due("count(5)", desk.count(5), 6);
        desk.undo();
        element("the base, undone", desk, 8, 0, 1, 0);
        desk.undo();
        element("the base, undone twice", desk, 8, 1, 0, 1);
        element("the unit, undone twice", desk, 9, 1, 0, 1);
    }

    // ---- promise 5

    @Sentence("Promise 5: split, NO_SUCH if there is no such register: by")
    void splitBy() {
        PeirceDesk desk = new PeirceDesk();
        range("split(by, 0, 0)", by -> desk.split(by, 0, 0), 0, 7, NO_SUCH);
        each("split(by, 0, 0)", by -> desk.split(by, 0, 0), NO_SUCH, 9, 10, NONE);
    }

    @Sentence("Promise 5: split, NO_SUCH if there is no such register: register")
    void splitRegister() {
        PeirceDesk desk = new PeirceDesk();
        range("split(0, register, 0)", register -> desk.split(0, register, 0), 0, 7, NO_SUCH);
        each("split(0, register, 0)", register -> desk.split(0, register, 0), NO_SUCH, 9, 10, NONE);
    }

    @Sentence("Promise 5: split, NO_SUCH if there is no such register (to above 5, too)")
    void splitTo() {
        PeirceDesk desk = new PeirceDesk();
        range("split(0, 0, to)", to -> desk.split(0, 0, to), 0, 5, NO_SUCH);
        each("split(0, 0, to)", to -> desk.split(0, 0, to), NO_SUCH, 6, 7, 8, NONE);
    }

    @Sentence("Promise 5: split, NOT_POSSIBLE if the first one is not its own square")
    void splitNotOwnSquare() {
        PeirceDesk desk = filled();
        each("split(by, 1, 5)", by -> desk.split(by, 1, 5), NOT_POSSIBLE, 0, 2, 3);
        due("split(1, 0, 5)", desk.split(1, 0, 5), 3);
        desk.base(3);
        each("split(by, 0, 5) by D", by -> desk.split(by, 0, 5), NOT_POSSIBLE, 0, 1, 2);
        due("split(3, 0, 5) by D", desk.split(3, 0, 5), 1);
    }

    @Sentence("Promise 5: split needs no element that is its own square but the first one")
    void splitAnyElement() {
        PeirceDesk desk = filled();
        each("split(1, register, 5)", register -> desk.split(1, register, 5), 3, 0, 2);
        due("split(1, 3, 5)", desk.split(1, 3, 5), 1);
    }

    @Sentence("Promise 5: part 2 comes into the register to, part 1 into the next one, part 0 into the one behind that: to 0")
    void splitToTheFirst() {
        PeirceDesk desk = filled();
        Checks.write(desk, 7, 1, 0, 0);
        Checks.write(desk, 6, 1, 2, 3);
        due("split(7, 6, 0)", desk.split(7, 6, 0), 3);
        element("part 2", desk, 0, 1, 0, 0);
        element("part 1", desk, 1, 0, 2, 0);
        element("part 0", desk, 2, 0, 0, 3);
        element("the register behind them", desk, 3, 0, 1, 0);
        element("what was split", desk, 6, 1, 2, 3);
        element("by what it was split", desk, 7, 1, 0, 0);
    }

    @Sentence("Promise 5: part 2 comes into the register to, part 1 into the next one, part 0 into the one behind that: to 5")
    void splitToTheLast() {
        PeirceDesk desk = filled();
        Checks.write(desk, 4, 0, 0, 4);
        due("split(1, 0, 5)", desk.split(1, 0, 5), 3);
        element("part 2", desk, 5, 1, 0, 0);
        element("part 1", desk, 6, 0, 2, 0);
        element("part 0", desk, 7, 0, 0, 3);
        element("the register ahead of them", desk, 4, 0, 0, 4);
        element("what was split", desk, 0, 1, 2, 3);
    }

    @Sentence("Promise 5: all three are found ahead of that, also if they come over the one that splits")
    void splitOverBy() {
        for (int to = 1; to <= 3; to++) {
            PeirceDesk desk = desk(2, 5);
            Checks.write(desk, 3, 1, 0, 0);
            Checks.write(desk, 7, 1, 2, 3);
            due("split(3, 7, " + to + ")", desk.split(3, 7, to), 3);
            element("part 2", desk, to, 1, 0, 0);
            element("part 1", desk, to + 1, 0, 2, 0);
            element("part 0", desk, to + 2, 0, 0, 3);
        }
    }

    @Sentence("Promise 5: all three are found ahead of that, also if they come over the one that is split")
    void splitOverRegister() {
        for (int to = 1; to <= 3; to++) {
            PeirceDesk desk = desk(2, 5);
            Checks.write(desk, 7, 1, 0, 0);
            Checks.write(desk, 3, 1, 2, 3);
            due("split(7, 3, " + to + ")", desk.split(7, 3, to), 3);
            element("part 2", desk, to, 1, 0, 0);
            element("part 1", desk, to + 1, 0, 2, 0);
            element("part 0", desk, to + 2, 0, 0, 3);
        }
    }

    @Sentence("Promise 5: all three are found ahead of that, also if an element is split by itself into itself")
    void splitOverBoth() {
        for (int to = 1; to <= 3; to++) {
            PeirceDesk desk = desk(2, 5);
            Checks.write(desk, 3, 3, 3, 3);
            due("split(3, 3, " + to + ")", desk.split(3, 3, to), 1);
            element("part 2", desk, to, 3, 3, 3);
            element("part 1", desk, to + 1, 0, 0, 0);
            element("part 0", desk, to + 2, 0, 0, 0);
        }
    }

    @Sentence("Promise 5: split by 0 gives part 0 alone, the element itself")
    void splitByZero() {
        PeirceDesk desk = filled();
        due("split(4, 0, 5)", desk.split(4, 0, 5), 1);
        element("part 2", desk, 5, 0, 0, 0);
        element("part 1", desk, 6, 0, 0, 0);
        element("part 0", desk, 7, 1, 2, 3);
    }

    @Sentence("Promise 5: split by the unit gives part 2 alone, the element itself")
    void splitByUnit() {
        PeirceDesk desk = filled();
        desk.base(0);
        run(desk, "E:i");
        due("split(4, 3, 5)", desk.split(4, 3, 5), 1);
        element("part 2", desk, 5, 0, 1, 0);
        element("part 1", desk, 6, 0, 0, 0);
        element("part 0", desk, 7, 0, 0, 0);
    }

    @Sentence("Promise 5: split returns how many of the three parts are not 0, from 0 to 3")
    void splitReturns() {
        PeirceDesk desk = filled();
        Checks.write(desk, 4, 0, 0, 3);
        due("split(1, 7, 5), none", desk.split(1, 7, 5), 0);
        due("split(1, 1, 5), part 2", desk.split(1, 1, 5), 1);
        due("split(1, 3, 5), part 1", desk.split(1, 3, 5), 1);
        due("split(1, 4, 5), part 0", desk.split(1, 4, 5), 1);
        Checks.write(desk, 0, 1, 2, 0);
        due("split(1, 0, 5), parts 2 and 1", desk.split(1, 0, 5), 2);
        Checks.write(desk, 0, 0, 2, 3);
        due("split(1, 0, 5), parts 1 and 0", desk.split(1, 0, 5), 2);
        Checks.write(desk, 0, 1, 0, 3);
        due("split(1, 0, 5), parts 2 and 0", desk.split(1, 0, 5), 2);
        Checks.write(desk, 0, 1, 2, 3);
        due("split(1, 0, 5), all", desk.split(1, 0, 5), 3);
    }

    @Sentence("Promise 5: split is one change, also if nothing is different then")
    void splitIsChange() {
        PeirceDesk desk = new PeirceDesk();
        desk.split(0, 0, 0);
        due("count(5)", desk.count(5), 1);
        desk.set(0, 1, 1, 1);
        desk.split(0, 0, 1);
        due("count(5)", desk.count(5), 3);
        due("undo()", desk.undo(), 2);
        due("count(2), undone", desk.count(2), 1);
    }

    // ---- promise 6

    @Sentence("Promise 6: run, its register gets the result, and is returned, from A (0) to H (7)")
    void runEachRegister() {
        for (int register = 0; register < 8; register++) {
            PeirceDesk desk = new PeirceDesk();
            String text = (char) ('A' + register) + ":2*i";
            due("run() of " + text, run(desk, text), register);
            element(text, desk, register, 2, 0, 2);
            due("the others stay", desk.count(2), 1 << register);
        }
    }

    @Sentence("Promise 6: run carries the formula out ahead of changing its register")
    void runOverItsArgument() {
        PeirceDesk desk = filled();
        run(desk, "A:p(A,A)-A+A-A");
        element("A", desk, 0, 4, 1, 0);
        run(desk, "A:A");
        element("A:A", desk, 0, 4, 1, 0);
    }

    @Sentence("Promise 6: run empties the pad")
    void runEmptiesThePad() {
        PeirceDesk desk = filled();
        run(desk, "H:A");
        due("count(4)", desk.count(4), 0);
        due("fault()", desk.fault(), 0);
        due("run() again", desk.run(), BAD_TEXT);
        Checks.type(desk, "A=A");
        due("holds() of what is put then", desk.holds(), 1);
    }

    @Sentence("Promise 6: run, BAD_TEXT if the pad has a fault: the empty pad")
    void runOfNothing() {
        due("run()", new PeirceDesk().run(), BAD_TEXT);
    }

    @Sentence("Promise 6: run, BAD_TEXT if the pad has a fault: a text that ends too early, or has one character too many")
    void runOfFaults() {
        PeirceDesk desk = filled();
        for (String text : new String[] {"A", "A:", "A:A+", "A:2", "A:2*", "A:p(A,B", "A:v", "A:(A", "A+B"}) {
            due("run() of " + text, run(desk, text), BAD_TEXT);
        }
        for (String text : new String[] {"A:B)", "A:BC", "A:B=", "A:p(A,B))", "A:B,", "A:B:", "I:A", "i:A"}) {
            due("run() of " + text, run(desk, text), BAD_TEXT);
        }
    }

    @Sentence("Promise 6: run, NOT_POSSIBLE if it is an equation, whether it holds or not")
    void runOfAnEquation() {
        PeirceDesk desk = filled();
        due("run() of A=A", run(desk, "A=A"), NOT_POSSIBLE);
        due("run() of A=B", run(desk, "A=B"), NOT_POSSIBLE);
        due("run() of v(A)=A", run(desk, "v(A)=A"), NOT_POSSIBLE);
        due("run() of v(C)=A", run(desk, "v(C)=A"), NOT_POSSIBLE);
    }

    @Sentence("Promise 6: run, NOT_POSSIBLE if it stops")
    void runThatStops() {
        PeirceDesk desk = filled();
        due("run() of A:v(C)", run(desk, "A:v(C)"), NOT_POSSIBLE);
        due("run() of A:A+0*v(C)", run(desk, "A:A+0*v(C)"), NOT_POSSIBLE);
        due("run() of A:v(A-A)", run(desk, "A:v(A-A)"), NOT_POSSIBLE);
        due("run() of A:v(A)", run(desk, "A:v(A)"), 0);
    }

    @Sentence("Promise 6: run is a change, also if nothing is different then")
    void runIsChange() {
        PeirceDesk desk = new PeirceDesk();
        run(desk, "A:A");
        due("count(5)", desk.count(5), 1);
        run(desk, "A:i");
        due("count(5)", desk.count(5), 2);
        due("undo()", desk.undo(), 1);
        element("A, undone", desk, 0, 0, 0, 0);
        due("count(4)", desk.count(4), 0);
    }

    @Sentence("Promise 6: run of a formula that fills the pad (60 characters)")
    void runOfTheLongest() {
        PeirceDesk desk = filled();
        typed(desk, "H:9*B" + "+A-A".repeat(12) + "+v(i)+D");
        due("count(4)", desk.count(4), 60);
        due("run()", desk.run(), 7);
        element("H", desk, 7, 0, 1, 1);
        due("count(4)", desk.count(4), 0);
    }
}
