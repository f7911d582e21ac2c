/** The boundary sentences of the promises 7 to 14: what there is, and the questions. */
public final class EdgesOfQuestionsTest extends Edges {
    public static void main(String[] arguments) {
        runAll(EdgesOfQuestionsTest.class);
    }

    // ---- promise 7

    @Sentence("Promise 7: entry, a register, 8 or 9; NO_SUCH if there is no such register")
    void entryRegister() {
        for (int size : SIZES) {
            PeirceDesk desk = desk(size, 5);
            range("entry(register, 0, 0)", register -> desk.entry(register, 0, 0), 0, 9, NO_SUCH);
            each("entry(register, 0, 0)", register -> desk.entry(register, 0, 0), NO_SUCH, NONE, -8, -9, 11);
        }
    }

    @Sentence("Promise 7: entry, NO_SUCH if there is no such row, the row 2 at the size 2 among them")
    void entryRow() {
        for (int size : SIZES) {
            PeirceDesk desk = desk(size, 5);
            for (int register = 0; register < 10; register++) {
                int asked = register;
                range("entry(" + asked + ", row, 0)", row -> desk.entry(asked, row, 0), 0, size - 1, NO_SUCH);
            }
        }
        due("entry(0, 2, 1) at the size 2", new PeirceDesk().entry(0, 2, 1), NO_SUCH);
    }

    @Sentence("Promise 7: entry, NO_SUCH if there is no such column, the column 2 at the size 2 among them")
    void entryColumn() {
        for (int size : SIZES) {
            PeirceDesk desk = desk(size, 5);
            for (int register = 0; register < 10; register++) {
                int asked = register;
                range("entry(" + asked + ", 1, column)", column -> desk.entry(asked, 1, column), 0, size - 1, NO_SUCH);
            }
        }
    }

    @Sentence("Promise 7: entry, 0 to 7 are the registers, each place of the first and of the last")
    void entryOfRegisters() {
        PeirceDesk desk = numbered(2);
        for (int register = 0; register < 8; register++) {
            due("entry(" + register + ", 0, 0)", desk.entry(register, 0, 0), register + 1);
        }
        PeirceDesk three = desk(3, 11);
        Checks.write(three, 0, 10, 9, 8, 7, 6, 5);
        Checks.write(three, 7, 1, 2, 3, 4, 5, 6);
        element("the first", three, 0, 10, 9, 8, 7, 6, 5);
        element("the last", three, 7, 1, 2, 3, 4, 5, 6);
    }

    @Sentence("Promise 7: entry, 8: the base")
    void entryOfTheBase() {
        PeirceDesk desk = filled();
        desk.base(0);
        element("the base", desk, 8, 1, 2, 3);
    }

    @Sentence("Promise 7: entry, 9: the unit")
    void entryOfTheUnit() {
        PeirceDesk desk = filled();
        desk.base(0);
        element("the unit", desk, 9, 2, 2, 4);
        PeirceDesk three = desk(3, 7);
        Checks.write(three, 0, 2, 1, 0, 3, 4, 6);
        three.base(0);
        element("the unit", three, 9, 6, 3, 5, 1, 4, 1);
    }

    // ---- promise 8

    @Sentence("Promise 8: of, a register, 8 or 9; NO_SUCH if there is no such register")
    void ofRegister() {
        PeirceDesk desk = new PeirceDesk();
        for (int what = 0; what < 8; what++) {
            int asked = what;
            each("of(register, " + what + ")", register -> desk.of(register, asked), NO_SUCH,
                    -1, 10, 11, NONE, LEAST, MOST);
        }
        range("of(register, 0)", register -> desk.of(register, 0), 0, 9, NO_SUCH);
    }

    @Sentence("Promise 8: of, what 0 to 7, BAD_VALUE if what is out of range")
    void ofWhat() {
        PeirceDesk desk = new PeirceDesk();
        int[] unit = {2, 1, 2, 1, 1, 1, 1, NONE};
        for (int what = 0; what < 8; what++) {
            due("of(9, " + what + ")", desk.of(9, what), unit[what]);
        }
        each("of(0, what)", what -> desk.of(0, what), BAD_VALUE, -1, 8, -2, 9, 10, NONE, LEAST, MOST);
        each("of(9, what)", what -> desk.of(9, what), BAD_VALUE, -1, 8, -2, 9, 10, NONE, LEAST, MOST);
    }

    @Sentence("Promise 8: of, 8: the base")
    void ofTheBase() {
        PeirceDesk desk = new PeirceDesk();
        Checks.write(desk, 0, 2, 0, 2);
        desk.base(0);
        int[] want = {4, 4, 2, 0, 1, 2, 1, NONE};
        for (int what = 0; what < 8; what++) {
            due("of(8, " + what + ")", desk.of(8, what), want[what]);
        }
    }

    @Sentence("Promise 8: of, 9: the unit")
    void ofTheUnit() {
        PeirceDesk desk = new PeirceDesk();
        Checks.write(desk, 0, 2, 0, 2);
        desk.base(0);
        int[] want = {1, 4, 2, 1, 1, 1, 1, NONE};
        for (int what = 0; what < 8; what++) {
            due("of(9, " + what + ")", desk.of(9, what), want[what]);
        }
    }

    @Sentence("Promise 8: of, 0 its trace, modulo the modulus")
    void trace() {
        for (int modulus : MODULI) {
            PeirceDesk desk = desk(2, modulus);
            due("the trace of 0", desk.of(0, 0), 0);
            Checks.write(desk, 0, modulus - 2, 1, 1);
            due("the greatest trace", desk.of(0, 0), modulus - 1);
            Checks.write(desk, 0, modulus - 1, 2, 1);
            due("a trace of just the modulus", desk.of(0, 0), 0);
            Checks.write(desk, 0, modulus - 1, 2, modulus - 1);
            due("a trace that wraps around", desk.of(0, 0), modulus - 2);
            PeirceDesk three = desk(3, modulus);
            Checks.write(three, 0, 0, 1, 1, 0, 1, modulus - 1);
            due("a trace of the last place alone", three.of(0, 0), modulus - 1);
            Checks.write(three, 0, modulus - 1, 1, 1, modulus - 1, 1, modulus - 1);
            due("a trace that wraps around twice", three.of(0, 0), modulus - 3);
        }
    }

    @Sentence("Promise 8: of, 1 its determinant, modulo the modulus")
    void determinant() {
        for (int modulus : MODULI) {
            PeirceDesk desk = desk(2, modulus);
            due("the determinant of 0", desk.of(0, 1), 0);
            Checks.write(desk, 0, 0, 1, 0);
            due("a determinant below 0", desk.of(0, 1), modulus - 1);
            Checks.write(desk, 0, 0, modulus - 1, 0);
            due("another one below 0", desk.of(0, 1), modulus - 1);
            Checks.write(desk, 0, modulus - 1, 0, modulus - 1);
            due("a determinant that wraps around", desk.of(0, 1), 1);
            Checks.write(desk, 0, 1, modulus - 1, 1);
            due("a determinant 0", desk.of(0, 1), 0);
            PeirceDesk three = desk(3, modulus);
            Checks.write(three, 0, 0, 0, 1, 1, 0, 0);
            due("a determinant below 0, size 3", three.of(0, 1), modulus - 1);
            Checks.write(three, 0, 0, 1, 1, 0, 1, 0);
            due("a determinant of 2, size 3", three.of(0, 1), 2);
            Checks.write(three, 0, 1, 1, 1, 1, 1, 1);
            due("a determinant 0, size 3", three.of(0, 1), 0);
        }
        PeirceDesk three = desk(3, 7);
        Checks.write(three, 0, 2, 1, 0, 3, 4, 6);
        due("the determinant -2 modulo 7", three.of(0, 1), 5);
    }

    @Sentence("Promise 8: of, 2 its rank: 0 for 0 everywhere")
    void rankZero() {
        for (int size : SIZES) {
            PeirceDesk desk = desk(size, 3);
            due("of(0, 2)", desk.of(0, 2), 0);
            desk.set(0, size - 1, size - 1, 1);
            due("of(0, 2)", desk.of(0, 2), 1);
        }
    }

    @Sentence("Promise 8: of, 2 its rank: rows that are multiples of one another, modulo the modulus, count once")
    void rankOne() {
        PeirceDesk desk = desk(2, 5);
        Checks.write(desk, 0, 1, 2, 4);
        due("1 2 / 2 4", desk.of(0, 2), 1);
        Checks.write(desk, 0, 2, 1, 3);
        due("2 1 / 1 3", desk.of(0, 2), 1);
        Checks.write(desk, 0, 0, 0, 4);
        due("0 0 / 0 4", desk.of(0, 2), 1);
        PeirceDesk three = desk(3, 11);
        Checks.write(three, 0, 10, 10, 10, 10, 10, 10);
        due("10 everywhere", three.of(0, 2), 1);
        Checks.write(three, 0, 1, 5, 4, 3, 9, 5);
        due("1 5 4 / 5 3 9 / 4 9 5", three.of(0, 2), 1);
    }

    @Sentence("Promise 8: of, 2 its rank: 2 is the greatest at the size 2")
    void rankTwo() {
        PeirceDesk desk = desk(2, 5);
        Checks.write(desk, 0, 0, 1, 0);
        due("0 1 / 1 0", desk.of(0, 2), 2);
        Checks.write(desk, 0, 2, 1, 4);
        due("2 1 / 1 4", desk.of(0, 2), 2);
    }

    @Sentence("Promise 8: of, 2 its rank: 2 where a row is a sum of multiples of the others, but no multiple of one")
    void rankTwoOfThree() {
        PeirceDesk three = desk(3, 5);
        Checks.write(three, 0, 1, 0, 1, 1, 1, 2);
        due("1 0 1 / 0 1 1 / 1 1 2", three.of(0, 2), 2);
        Checks.write(three, 0, 0, 0, 0, 0, 1, 0);
        due("0 0 0 / 0 0 1 / 0 1 0", three.of(0, 2), 2);
        Checks.write(three, 0, 1, 0, 1, 1, 3, 0);
        due("1 0 1 / 0 1 3 / 1 3 0", three.of(0, 2), 2);
    }

    @Sentence("Promise 8: of, 2 its rank: 3 is the greatest at the size 3")
    void rankThree() {
        for (int modulus : MODULI) {
            PeirceDesk three = desk(3, modulus);
            Checks.write(three, 0, 0, 0, 1, 1, 0, 0);
            due("0 0 1 / 0 1 0 / 1 0 0", three.of(0, 2), 3);
            due("the unit", three.of(9, 2), 3);
        }
    }

    @Sentence("Promise 8: of, 3 whether it is its own square (1 or 0), by the base")
    void ownSquare() {
        PeirceDesk desk = filled();
        int[] byIdentity = {0, 1, 0, 0, 1};
        int[] byD = {0, 0, 0, 1, 1};
        for (int register = 0; register < 5; register++) {
            due("of(" + register + ", 3)", desk.of(register, 3), byIdentity[register]);
        }
        desk.base(3);
        for (int register = 0; register < 5; register++) {
            due("of(" + register + ", 3) by D", desk.of(register, 3), byD[register]);
        }
        due("of(8, 3) by D", desk.of(8, 3), 1);
        due("of(9, 3) by D", desk.of(9, 3), 1);
    }

    @Sentence("Promise 8: of, 4 whether it has an inverse (1 or 0)")
    void hasInverse() {
        PeirceDesk desk = filled();
        Checks.write(desk, 5, 2, 1, 3);
        int[] want = {1, 0, 0, 1, 0, 0};
        for (int register = 0; register < 6; register++) {
            due("of(" + register + ", 4)", desk.of(register, 4), want[register]);
        }
        desk.base(0);
        for (int register = 0; register < 6; register++) {
            due("of(" + register + ", 4) by A", desk.of(register, 4), want[register]);
        }
        PeirceDesk three = desk(3, 3);
        Checks.write(three, 0, 1, 1, 0, 2, 0, 1);
        due("1 1 0 / 1 2 0 / 0 0 1", three.of(0, 4), 1);
        Checks.write(three, 0, 2, 1, 0, 2, 0, 1);
        due("2 1 0 / 1 2 0 / 0 0 1, the determinant 3", three.of(0, 4), 0);
    }

    @Sentence("Promise 8: of, 5 its order, from 1 on: 1 for the unit, not for the identity matrix by another base")
    void orderOne() {
        for (int size : SIZES) {
            for (int modulus : MODULI) {
                PeirceDesk desk = desk(size, modulus);
                due("of(9, 5)", desk.of(9, 5), 1);
                diagonal(desk, 0, 1, modulus - 1, 1);
                run(desk, "B:i");
                desk.base(0);
                due("of(9, 5) by another base", desk.of(9, 5), 1);
                due("of(1, 5), the identity matrix", desk.of(1, 5), 2);
            }
        }
    }

    @Sentence("Promise 8: of, 5 its order: the least power that is the unit")
    void orderLeast() {
        PeirceDesk desk = filled();
        due("of(0, 5)", desk.of(0, 5), 20);
        due("of(3, 5)", desk.of(3, 5), 2);
        Checks.write(desk, 4, 2, 0, 2);
        due("of(4, 5)", desk.of(4, 5), 4);
        Checks.write(desk, 5, 2, 2, 0);
        due("of(5, 5)", desk.of(5, 5), 5);
        PeirceDesk three = desk(3, 7);
        Checks.write(three, 0, 2, 1, 0, 3, 4, 6);
        due("of(0, 5), size 3", three.of(0, 5), 342);
    }

    @Sentence("Promise 8: of, 5 its order: the greatest that there is (1330) is below 2000")
    void orderGreatest() {
        PeirceDesk three = desk(3, 11);
        Checks.write(three, 0, 1, 1, 8, 6, 10, 7);
        due("of(0, 5)", three.of(0, 5), 1330);
        due("power(0, 1330, 0, 0)", three.power(0, 1330, 0, 0), 1);
        due("power(0, 1330, 0, 1)", three.power(0, 1330, 0, 1), 0);
    }

    @Sentence("Promise 8: of, 5 its order: NONE if no power up to 2000 is the unit")
    void orderNone() {
        PeirceDesk desk = filled();
        each("of(register, 5)", register -> desk.of(register, 5), NONE, 1, 2, 4, 7);
        desk.base(0);
        each("of(register, 5) by A", register -> desk.of(register, 5), NONE, 1, 2, 4, 7);
        PeirceDesk three = desk(3, 11);
        diagonal(three, 0, 1, 1, 0);
        diagonal(three, 1, 2, 10, 0);
        Checks.write(three, 2, 3, 0, 2, 7, 4, 1);
        each("of(register, 5) of the size 3", register -> three.of(register, 5), NONE, 0, 1, 2, 3);
    }

    @Sentence("Promise 8: of, 6 its degree, from 1 on: 1 for the multiples of the unit, 0 among them")
    void degreeOne() {
        for (int size : SIZES) {
            PeirceDesk desk = desk(size, 5);
            due("of(0, 6), 0", desk.of(0, 6), 1);
            due("of(9, 6), the unit", desk.of(9, 6), 1);
            due("of(9, 2), asked in between", desk.of(9, 2), size);
            due("of(9, 6), asked behind it", desk.of(9, 6), 1);
            run(desk, "B:4*i");
            due("of(1, 6), 4*i", desk.of(1, 6), 1);
            diagonal(desk, 2, 1, 2, 1);
            desk.base(2);
            due("of(1, 6), 4*i of the base before", desk.of(1, 6), 2);
            run(desk, "B:4*i");
            due("of(1, 6), 4*i by another base", desk.of(1, 6), 1);
            due("of(0, 6), 0 by another base", desk.of(0, 6), 1);
        }
    }

    @Sentence("Promise 8: of, 6 its degree: 2 is the greatest at the size 2")
    void degreeTwo() {
        PeirceDesk desk = filled();
        each("of(register, 6)", register -> desk.of(register, 6), 2, 0, 1, 2, 3);
        PeirceDesk three = desk(3, 5);
        diagonal(three, 0, 1, 1, 0);
        Checks.write(three, 1, 0, 0, 1, 1, 0, 0);
        Checks.write(three, 2, 4, 4, 4, 4, 4, 4);
        each("of(register, 6) of the size 3", register -> three.of(register, 6), 2, 0, 1, 2);
        due("of(1, 1), asked in between", three.of(1, 1), 4);
        due("of(0, 6), asked behind it", three.of(0, 6), 2);
        PeirceDesk seven = desk(3, 7);
        Checks.write(seven, 0, 2, 2, 2, 2, 2, 2);
        diagonal(seven, 1, 1, 2, 1);
        seven.base(1);
        due("of(0, 3), which is its own square by another base", seven.of(0, 3), 1);
        due("of(0, 6) by another base", seven.of(0, 6), 2);
        due("of(8, 6) by another base", seven.of(8, 6), 2);
    }

    @Sentence("Promise 8: of, 6 its degree: 3 is the greatest at the size 3")
    void degreeThree() {
        PeirceDesk three = desk(3, 5);
        diagonal(three, 0, 1, 2, 0);
        diagonal(three, 1, 1, 2, 3);
        Checks.write(three, 2, 0, 1, 0, 0, 1, 0);
        each("of(register, 6)", register -> three.of(register, 6), 3, 0, 1, 2);
        PeirceDesk eleven = desk(3, 11);
        Checks.write(eleven, 0, 3, 0, 2, 7, 4, 1);
        due("of(0, 6), whose power 3 is 0", eleven.of(0, 6), 3);
    }

    @Sentence("Promise 8: of, 7 the least power, from 1 on, that is 0 everywhere: 1 for 0")
    void zeroPowerOne() {
        for (int size : SIZES) {
            PeirceDesk desk = desk(size, 5);
            each("of(register, 7)", register -> desk.of(register, 7), 1, 0, 7);
        }
    }

    @Sentence("Promise 8: of, 7 the least power that is 0 everywhere: 2, also by another base")
    void zeroPowerTwo() {
        PeirceDesk desk = filled();
        due("of(2, 7)", desk.of(2, 7), 2);
        due("of(1, 7)", desk.of(1, 7), NONE);
        desk.base(3);
        due("of(1, 7) by D", desk.of(1, 7), 2);
        due("of(2, 7) by D", desk.of(2, 7), NONE);
    }

    @Sentence("Promise 8: of, 7 the least power that is 0 everywhere: 3 is the greatest")
    void zeroPowerThree() {
        PeirceDesk three = desk(3, 11);
        Checks.write(three, 0, 3, 0, 2, 7, 4, 1);
        due("of(0, 7)", three.of(0, 7), 3);
    }

    @Sentence("Promise 8: of, 7 NONE if no power up to 10 is 0 everywhere")
    void zeroPowerNone() {
        PeirceDesk desk = filled();
        each("of(register, 7)", register -> desk.of(register, 7), NONE, 0, 1, 3, 8, 9);
        PeirceDesk three = desk(3, 3);
        diagonal(three, 0, 0, 0, 2);
        due("of(0, 7) of the size 3", three.of(0, 7), NONE);
    }

    // ---- promise 9

    @Sentence("Promise 9: count, what 0 to 5, BAD_VALUE if what is out of range")
    void countWhat() {
        PeirceDesk desk = new PeirceDesk();
        range("count(what)", desk::count, 0, 5, BAD_VALUE);
        each("count(what)", desk::count, BAD_VALUE, NONE, 8, 9);
    }

    @Sentence("Promise 9: count, 2 registers that are not 0 everywhere, as a set: none, the first, the last, all")
    void countNotZero() {
        for (int size : SIZES) {
            PeirceDesk desk = desk(size, 5);
            due("none", desk.count(2), 0);
            desk.set(0, 0, 1, 1);
            due("the first", desk.count(2), 1);
            desk.set(7, size - 1, size - 1, 1);
            due("and the last", desk.count(2), 129);
            desk.set(0, 0, 1, 0);
            due("the last", desk.count(2), 128);
            for (int register = 0; register < 7; register++) {
                desk.set(register, 0, 0, 4);
            }
            due("all", desk.count(2), 255);
        }
    }

    @Sentence("Promise 9: count, 3 registers whose elements are their own squares, as a set: all, without the first, without the last, none")
    void countOwnSquares() {
        for (int size : SIZES) {
            PeirceDesk desk = desk(size, 5);
            due("all", desk.count(3), 255);
            desk.set(0, 0, 0, 1);
            due("all", desk.count(3), 255);
            desk.set(0, 0, 0, 2);
            due("without the first", desk.count(3), 254);
            desk.set(7, size - 1, size - 1, 4);
            due("without the last, too", desk.count(3), 126);
            desk.set(0, 0, 0, 0);
            due("without the last", desk.count(3), 127);
            for (int register = 0; register < 7; register++) {
                desk.set(register, 0, 1, 1);
            }
            due("none", desk.count(3), 0);
        }
    }

    @Sentence("Promise 9: count, 4 the length of the pad, from 0 to 60")
    void countPad() {
        PeirceDesk desk = new PeirceDesk();
        for (int length = 0; length < 60; length++) {
            due("count(4)", desk.count(4), length);
            desk.put('~');
        }
        due("count(4)", desk.count(4), 60);
        desk.put('~');
        due("count(4)", desk.count(4), 60);
        desk.wipe();
        due("count(4)", desk.count(4), 0);
    }

    @Sentence("Promise 9: count, 5 how many changes can be undone, from 0 to 6")
    void countChanges() {
        PeirceDesk desk = new PeirceDesk();
        for (int changes = 0; changes < 6; changes++) {
            due("count(5)", desk.count(5), changes);
            desk.set(0, 0, 0, changes % 5);
        }
        for (int more = 0; more < 3; more++) {
            due("count(5)", desk.count(5), 6);
            desk.set(0, 0, 0, more);
        }
        for (int left = 5; left >= 0; left--) {
            desk.undo();
            due("count(5)", desk.count(5), left);
        }
    }

    // ---- promise 10

    @Sentence("Promise 10: areSame, NO_SUCH if there is no such register: the first one")
    void areSameRegister() {
        PeirceDesk desk = new PeirceDesk();
        range("areSame(register, 0)", register -> desk.areSame(register, 0), 0, 7, NO_SUCH);
        each("areSame(register, 7)", register -> desk.areSame(register, 7), NO_SUCH, 9, 10, NONE);
    }

    @Sentence("Promise 10: areSame, NO_SUCH if there is no such register: the other one")
    void areSameOther() {
        PeirceDesk desk = new PeirceDesk();
        range("areSame(0, other)", other -> desk.areSame(0, other), 0, 7, NO_SUCH);
        each("areSame(7, other)", other -> desk.areSame(7, other), NO_SUCH, 9, 10, NONE);
    }

    @Sentence("Promise 10: areSame, the first and the last of the registers 0 to 7, and one with itself")
    void areSameEnds() {
        PeirceDesk desk = numbered(2);
        for (int register = 0; register < 8; register++) {
            due("with itself", desk.areSame(register, register), 1);
            due("with the next one", desk.areSame(register, (register + 1) % 8), 0);
        }
        desk.set(7, 0, 0, 1);
        due("areSame(0, 7)", desk.areSame(0, 7), 1);
        due("areSame(7, 0)", desk.areSame(7, 0), 1);
    }

    @Sentence("Promise 10: areSame, the same element only if every number is the same")
    void areSameEveryNumber() {
        for (int size : SIZES) {
            for (int row = 0; row < size; row++) {
                for (int column = 0; column <= row; column++) {
                    PeirceDesk desk = desk(size, 5);
                    desk.set(3, row, column, 1);
                    due("areSame(3, 4)", desk.areSame(3, 4), 0);
                    desk.set(4, row, column, 1);
                    due("areSame(3, 4)", desk.areSame(3, 4), 1);
                }
            }
        }
    }

    // ---- promise 11

    @Sentence("Promise 11: power, NO_SUCH if there is no such register")
    void powerRegister() {
        PeirceDesk desk = new PeirceDesk();
        range("power(register, 0, 0, 0)", register -> desk.power(register, 0, 0, 0), 0, 7, NO_SUCH);
        each("power(register, 2000, 0, 0)", register -> desk.power(register, 2000, 0, 0), NO_SUCH, 8, 9, 10, NONE);
    }

    @Sentence("Promise 11: power, NO_SUCH if there is no such row, the row 2 at the size 2 among them")
    void powerRow() {
        for (int size : SIZES) {
            PeirceDesk desk = desk(size, 5);
            range("power(0, 1, row, 0)", row -> desk.power(0, 1, row, 0), 0, size - 1, NO_SUCH);
            range("power(7, 0, row, 1)", row -> desk.power(7, 0, row, 1), 0, size - 1, NO_SUCH);
        }
    }

    @Sentence("Promise 11: power, NO_SUCH if there is no such column, the column 2 at the size 2 among them")
    void powerColumn() {
        for (int size : SIZES) {
            PeirceDesk desk = desk(size, 5);
            range("power(0, 1, 0, column)", column -> desk.power(0, 1, 0, column), 0, size - 1, NO_SUCH);
            range("power(7, 0, 1, column)", column -> desk.power(7, 0, 1, column), 0, size - 1, NO_SUCH);
        }
    }

    @Sentence("Promise 11: power, power 0 to 2000, BAD_VALUE if power is out of range")
    void powerRange() {
        for (int size : SIZES) {
            for (int from = 0; from <= 2000; from += 500) {
                PeirceDesk some = desk(size, 11);
                for (int power = from; power < from + 500 && power <= 2000; power++) {
                    due("power(0, " + power + ", 0, 0) of 0", some.power(0, power, 0, 0), power == 0 ? 1 : 0);
                }
            }
            PeirceDesk desk = desk(size, 11);
            each("power(0, power, 0, 0)", power -> desk.power(0, power, 0, 0), BAD_VALUE, -1, -2, 2001, 2002, LEAST, MOST);
            each("power(0, power, 0, 0)", power -> desk.power(0, power, 0, 0), BAD_VALUE, NONE, 2047, 2048, 4000);
        }
    }

    @Sentence("Promise 11: power, the greatest power (2000) is told as it is")
    void powerGreatest() {
        PeirceDesk desk = desk(3, 11);
        Checks.write(desk, 0, 1, 1, 8, 6, 10, 7);
        boolean differs = false;
        for (int row = 0; row < 3; row++) {
            for (int column = 0; column < 3; column++) {
                /* 1330 is its order. */
                due("power(0, 2000, ..)", desk.power(0, 2000, row, column), desk.power(0, 670, row, column));
                due("power(0, 1999, ..)", desk.power(0, 1999, row, column), desk.power(0, 669, row, column));
                differs |= desk.power(0, 2000, row, column) != desk.power(0, 1999, row, column);
            }
        }
        due("the powers 1999 and 2000 differ", differs ? 1 : 0, 1);
        int[] first = {desk.power(0, 2000, 0, 0), desk.power(0, 2000, 0, 1), desk.power(0, 2000, 2, 2)};
        due("power(0, 2000, 0, 0)", first[0], POWER_2000[0]);
        due("power(0, 2000, 0, 1)", first[1], POWER_2000[1]);
        due("power(0, 2000, 2, 2)", first[2], POWER_2000[2]);
    }

    private static final int[] POWER_2000 = {3, 0, 5};

    @Sentence("Promise 11: power, each power is the product of the one before and the element")
    void powerSteps() {
        PeirceDesk desk = filled();
        desk.base(3);
        run(desk, "E:i");
        for (int power = 0; power <= 40; power++) {
            for (int place = 0; place < 4; place++) {
                due("power(0, " + power + ", ..)", desk.power(0, power, place / 2, place % 2),
                        desk.entry(4, place / 2, place % 2));
            }
            run(desk, "E:p(E,A)");
        }
    }

    // ---- promise 12

    @Sentence("Promise 12: rule, NO_SUCH if there is no such register: a")
    void ruleA() {
        PeirceDesk desk = new PeirceDesk();
        range("rule(a, 0, 0, 0)", a -> desk.rule(a, 0, 0, 0), 0, 7, NO_SUCH);
        each("rule(a, 0, 0, 1)", a -> desk.rule(a, 0, 0, 1), NO_SUCH, 8, 9, 10, NONE);
    }

    @Sentence("Promise 12: rule, NO_SUCH if there is no such register: b")
    void ruleB() {
        PeirceDesk desk = new PeirceDesk();
        range("rule(0, b, 0, 0)", b -> desk.rule(0, b, 0, 0), 0, 7, NO_SUCH);
        each("rule(0, b, 0, 1)", b -> desk.rule(0, b, 0, 1), NO_SUCH, 8, 9, 10, NONE);
    }

    @Sentence("Promise 12: rule, NO_SUCH if there is no such register: c")
    void ruleC() {
        PeirceDesk desk = new PeirceDesk();
        range("rule(0, 0, c, 0)", c -> desk.rule(0, 0, c, 0), 0, 7, NO_SUCH);
        each("rule(0, 0, c, 1)", c -> desk.rule(0, 0, c, 1), NO_SUCH, 8, 9, 10, NONE);
    }

    @Sentence("Promise 12: rule, BAD_VALUE if what is neither 0 nor 1")
    void ruleWhat() {
        PeirceDesk desk = filled();
        range("rule(0, 1, 2, what)", what -> desk.rule(0, 1, 2, what), 0, 1, BAD_VALUE);
        each("rule(0, 1, 2, what)", what -> desk.rule(0, 1, 2, what), BAD_VALUE, NONE, 4, 5);
    }

    @Sentence("Promise 12: rule, 0 whether it is so (1 or 0)")
    void ruleIsSo() {
        PeirceDesk desk = filled();
        for (int turned = 0; turned < 2; turned++) {
            for (int k = 0; k < 5 * 5 * 5; k++) {
                due("rule(.., 0) " + k, desk.rule(k / 25, k / 5 % 5, k % 5, 0), 1);
            }
            desk.base(0);
        }
    }

    @Sentence("Promise 12: rule, 1 the trace of what the operator of o, used on c, gives, modulo the modulus")
    void ruleTrace() {
        PeirceDesk desk = filled();
        due("rule(0, 3, 0, 1)", desk.rule(0, 3, 0, 1), 2);
        due("rule(1, 0, 1, 1)", desk.rule(1, 0, 1, 1), 1);
        due("rule(0, 1, 1, 1)", desk.rule(0, 1, 1, 1), 0);
        due("rule(0, 4, 0, 1) of 0", desk.rule(0, 4, 0, 1), 0);
        desk.base(3);
        due("rule(0, 1, 1, 1) by D", desk.rule(0, 1, 1, 1), 2);
        for (int modulus : MODULI) {
            PeirceDesk other = desk(2, modulus);
            diagonal(other, 0, 1, 1);
            diagonal(other, 1, modulus - 1, modulus - 1);
            due("rule(0, 0, 1, 1), a trace of -2", other.rule(0, 0, 1, 1), modulus - 2);
            diagonal(other, 1, modulus - 1, 1);
            due("rule(0, 0, 1, 1), a trace of just the modulus", other.rule(0, 0, 1, 1), 0);
        }
    }

    // ---- promise 13

    @Sentence("Promise 13: partSize, NO_SUCH if there is no such register")
    void partSizeRegister() {
        PeirceDesk desk = new PeirceDesk();
        range("partSize(register, 0)", register -> desk.partSize(register, 0), 0, 7, NO_SUCH);
        each("partSize(register, 2)", register -> desk.partSize(register, 2), NO_SUCH, 8, 9, 10, NONE);
    }

    @Sentence("Promise 13: partSize, part 0 to 2, BAD_VALUE if part is out of range")
    void partSizePart() {
        PeirceDesk desk = filled();
        range("partSize(1, part)", part -> desk.partSize(1, part), 0, 2, BAD_VALUE);
        range("partSize(7, part)", part -> desk.partSize(7, part), 0, 2, BAD_VALUE);
        each("partSize(1, part)", part -> desk.partSize(1, part), BAD_VALUE, NONE, 5);
    }

    @Sentence("Promise 13: partSize, NOT_POSSIBLE if the element is not its own square")
    void partSizeNotOwnSquare() {
        PeirceDesk desk = filled();
        for (int part = 0; part < 3; part++) {
            int asked = part;
            each("partSize(register, " + part + ")", register -> desk.partSize(register, asked), NOT_POSSIBLE, 0, 2, 3);
        }
        due("partSize(1, 0)", desk.partSize(1, 0), 1);
        desk.base(3);
        due("partSize(1, 0) by D", desk.partSize(1, 0), NOT_POSSIBLE);
        due("partSize(3, 0) by D", desk.partSize(3, 0), 0);
    }

    /** The exponents of the parts 0, 1 and 2 by an element with 1 at the first places and 0 elsewhere. */
    private void sizes(int size, int ones, int zero, int one, int two) {
        for (int modulus : MODULI) {
            PeirceDesk desk = desk(size, modulus);
            for (int place = 0; place < ones; place++) {
                desk.set(7, place, place, 1);
            }
            due("partSize(7, 0) of rank " + ones, desk.partSize(7, 0), zero);
            due("partSize(7, 1) of rank " + ones, desk.partSize(7, 1), one);
            due("partSize(7, 2) of rank " + ones, desk.partSize(7, 2), two);
        }
    }

    @Sentence("Promise 13: partSize by 0: every element is a part 0, and no other but 0 a part 1 or 2")
    void partSizeByZero() {
        sizes(2, 0, 3, 0, 0);
        sizes(3, 0, 6, 0, 0);
    }

    @Sentence("Promise 13: partSize by the unit: every element is a part 2, and no other but 0 a part 1 or 0")
    void partSizeByUnit() {
        sizes(2, 2, 0, 0, 3);
        sizes(3, 3, 0, 0, 6);
        PeirceDesk desk = filled();
        desk.base(0);
        run(desk, "E:i");
        due("partSize(4, 2) by A", desk.partSize(4, 2), 3);
        due("partSize(4, 0) by A", desk.partSize(4, 0), 0);
    }

    @Sentence("Promise 13: partSize by the elements between 0 and the unit")
    void partSizeBetween() {
        sizes(2, 1, 1, 1, 1);
        sizes(3, 1, 3, 2, 1);
        sizes(3, 2, 1, 2, 3);
        PeirceDesk desk = filled();
        desk.base(3);
        Checks.write(desk, 4, 3, 3, 3);
        for (int part = 0; part < 3; part++) {
            due("partSize(4, " + part + ") by D", desk.partSize(4, part), 1);
        }
    }

    // ---- promise 14

    @Sentence("Promise 14: howMany, kind 0 to 3, BAD_VALUE if kind is out of range")
    void howManyKind() {
        for (int modulus : MODULI) {
            PeirceDesk desk = desk(2, modulus);
            range("howMany(kind)", desk::howMany, 0, 3, BAD_VALUE);
            each("howMany(kind)", desk::howMany, BAD_VALUE, NONE, 6, 7);
        }
    }

    @Sentence("Promise 14: howMany, NOT_POSSIBLE if the size is 3")
    void howManyOfTheSizeThree() {
        for (int modulus : MODULI) {
            PeirceDesk desk = desk(3, modulus);
            each("howMany(kind)", desk::howMany, NOT_POSSIBLE, 0, 1, 2, 3);
            desk.begin(2, modulus);
            due("howMany(2) at the size 2 again", desk.howMany(2), modulus == 5 ? 9 : 1);
        }
    }

    @Sentence("Promise 14: howMany, 0 those that are their own squares, by the base")
    void howManyOwnSquares() {
        kind(0, new int[] {6, 6, 10, 14});
        turned(0, 8);
    }

    @Sentence("Promise 14: howMany, 1 those that have an inverse")
    void howManyInverses() {
        kind(1, new int[] {18, 100, 294, 1210});
        turned(1, 100);
    }

    @Sentence("Promise 14: howMany, 2 those of which some power from 1 on is 0 everywhere, 0 among them")
    void howManyZeroPowers() {
        kind(2, new int[] {1, 9, 1, 1});
        turned(2, 1);
        PeirceDesk desk = filled();
        desk.base(3);
        due("howMany(2) by D", desk.howMany(2), 9);
        PeirceDesk eleven = desk(2, 11);
        diagonal(eleven, 0, 1, 2);
        eleven.base(0);
        due("howMany(2) modulo 11, turned", eleven.howMany(2), 21);
    }

    @Sentence("Promise 14: howMany, 3 those whose product with themselves is the unit, by the base")
    void howManyRootsOfTheUnit() {
        kind(3, new int[] {6, 6, 10, 14});
        turned(3, 8);
    }

    private void kind(int kind, int[] want) {
        for (int k = 0; k < 4; k++) {
            PeirceDesk desk = desk(2, MODULI[k]);
            due("howMany(" + kind + ") modulo " + MODULI[k], desk.howMany(kind), want[k]);
            Checks.write(desk, 0, 1, 1, 1);
            due("howMany(" + kind + ") when a register is not 0", desk.howMany(kind), want[k]);
        }
    }

    /** Modulo 5, by the base 3 0 / 0 1. */
    private void turned(int kind, int want) {
        PeirceDesk desk = new PeirceDesk();
        diagonal(desk, 0, 3, 1);
        desk.base(0);
        due("howMany(" + kind + ") by 3 0 / 0 1", desk.howMany(kind), want);
    }
}
