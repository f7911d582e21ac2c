/** The boundary sentences of the promises 20 to 22: undo, save, restore. */
public final class EdgesOfHistoryTest extends Edges {
    public static void main(String[] arguments) {
        runAll(EdgesOfHistoryTest.class);
    }

    /** A desk of the modulus 11 after so many changes, the last of which set 0, 0 of A to their number. */
    private static PeirceDesk changed(int changes) {
        PeirceDesk desk = new PeirceDesk();
        for (int change = 1; change <= changes; change++) {
            if (change == 1) {
                desk.begin(2, 11);
            } else {
                desk.set(0, 0, 0, change);
            }
        }
        return desk;
    }

    // ---- promise 20

    @Sentence("Promise 20: undo, NOT_POSSIBLE if there is no change that can be undone")
    void undoOfNothing() {
        PeirceDesk desk = new PeirceDesk();
        due("undo() at first", desk.undo(), NOT_POSSIBLE);
        desk.set(0, 0, 0, 1);
        due("undo() of one", desk.undo(), 0);
        due("undo() of none", desk.undo(), NOT_POSSIBLE);
        due("undo() of none again", desk.undo(), NOT_POSSIBLE);
        due("entry(0, 0, 0)", desk.entry(0, 0, 0), 0);
    }

    @Sentence("Promise 20: undo returns how many changes can be undone then, from 5 to 0")
    void undoReturns() {
        PeirceDesk desk = changed(6);
        for (int left = 5; left >= 0; left--) {
            due("undo()", desk.undo(), left);
            due("count(5)", desk.count(5), left);
        }
    }

    @Sentence("Promise 20: a history of at most 6 states is kept: six changes can be undone, all of them")
    void sixChanges() {
        PeirceDesk desk = changed(6);
        due("count(5)", desk.count(5), 6);
        for (int change = 6; change >= 2; change--) {
            due("entry(0, 0, 0)", desk.entry(0, 0, 0), change);
            due("undo()", desk.undo(), change - 1);
        }
        due("entry(0, 0, 0)", desk.entry(0, 0, 0), 0);
        due("count(1)", desk.count(1), 11);
        due("undo()", desk.undo(), 0);
        due("count(1) as at first", desk.count(1), 5);
        due("undo()", desk.undo(), NOT_POSSIBLE);
    }

    @Sentence("Promise 20: when one more is recorded, the oldest one is dropped: the seventh change")
    void seventhChange() {
        PeirceDesk desk = changed(7);
        due("count(5)", desk.count(5), 6);
        for (int change = 7; change >= 3; change--) {
            due("entry(0, 0, 0)", desk.entry(0, 0, 0), change);
            due("undo()", desk.undo(), change - 2);
        }
        due("undo()", desk.undo(), 0);
        due("entry(0, 0, 0)", desk.entry(0, 0, 0), 0);
        due("undo() of the dropped one", desk.undo(), NOT_POSSIBLE);
        due("count(1) of behind the first change", desk.count(1), 11);
    }

    @Sentence("Promise 20: when one more is recorded, the oldest one is dropped: many more")
    void manyChanges() {
        for (int changes = 8; changes <= 11; changes++) {
            PeirceDesk desk = changed(changes - 1);
            desk.set(0, 0, 0, 1);
            due("count(5) after " + changes, desk.count(5), 6);
            for (int left = 5; left >= 0; left--) {
                due("undo()", desk.undo(), left);
                int number = changes - 6 + left;
                due("entry(0, 0, 0)", desk.entry(0, 0, 0), number);
            }
            due("undo() of the dropped one", desk.undo(), NOT_POSSIBLE);
        }
    }

    @Sentence("Promise 20: undo makes room: a change behind it is recorded with nothing dropped")
    void changesBehindUndo() {
        PeirceDesk desk = changed(6);
        desk.undo();
        desk.undo();
        due("entry(0, 0, 0)", desk.entry(0, 0, 0), 4);
        desk.set(0, 0, 0, 9);
        due("count(5)", desk.count(5), 5);
        desk.set(0, 0, 0, 10);
        due("count(5)", desk.count(5), 6);
        int[] numbers = {9, 4, 3, 2, 0, 0};
        for (int k = 0; k < 6; k++) {
            due("undo()", desk.undo(), 5 - k);
            due("entry(0, 0, 0)", desk.entry(0, 0, 0), numbers[k]);
        }
        due("count(1)", desk.count(1), 5);
        due("undo()", desk.undo(), NOT_POSSIBLE);
    }

    @Sentence("Promise 20: undo is no change: it cannot be undone itself")
    void undoIsNoChange() {
        PeirceDesk desk = changed(3);
        due("undo()", desk.undo(), 2);
        due("undo()", desk.undo(), 1);
        due("entry(0, 0, 0)", desk.entry(0, 0, 0), 0);
    }

    @Sentence("Promise 20: each method that is a change records the state before it (also if nothing is different then)")
    void changesOfNothing() {
        PeirceDesk desk = new PeirceDesk();
        desk.begin(2, 5);
        desk.set(7, 1, 1, 0);
        desk.base(NONE);
        desk.split(0, 0, 0);
        run(desk, "A:A");
        due("count(5)", desk.count(5), 5);
        desk.save(0);
        due("count(5)", desk.count(5), 5);
        desk.restore(0);
        due("count(5)", desk.count(5), 6);
        desk.set(7, 1, 1, 0);
        due("count(5)", desk.count(5), 6);
        for (int left = 5; left >= 0; left--) {
            due("undo()", desk.undo(), left);
        }
        due("undo()", desk.undo(), NOT_POSSIBLE);
    }

    @Sentence("Promise 20: each method that is a change, and returns no error, records: errors record nothing")
    void errorsRecordNothing() {
        PeirceDesk desk = filled();
        desk.undo();
        int changes = desk.count(5);
        desk.begin(2, 4);
        desk.set(8, 0, 0, 0);
        desk.set(0, 0, 0, 5);
        desk.base(8);
        desk.base(1);
        desk.split(8, 0, 0);
        desk.split(0, 0, 0);
        desk.run();
        run(desk, "A=A");
        run(desk, "A:v(C)");
        desk.restore(0);
        desk.restore(2);
        due("count(5)", desk.count(5), changes);
    }

    @Sentence("Promise 20: only the methods that are changes record")
    void othersRecordNothing() {
        PeirceDesk desk = new PeirceDesk();
        desk.undo();
        desk.entry(0, 0, 0);
        desk.of(0, 5);
        desk.count(3);
        desk.areSame(0, 1);
        desk.power(0, 2, 0, 0);
        desk.rule(0, 1, 2, 1);
        desk.partSize(0, 1);
        desk.howMany(0);
        Checks.type(desk, "A=A");
        desk.holds();
        desk.stops();
        desk.fault();
        desk.wipe();
        desk.save(0);
        due("count(5)", desk.count(5), 0);
        due("undo()", desk.undo(), NOT_POSSIBLE);
    }

    @Sentence("Promise 20: undo, everything is as it was before: the size, the modulus, the registers and the base")
    void undoOfEverything() {
        PeirceDesk desk = filled();
        desk.base(0);
        String before = state(desk);
        desk.begin(3, 11);
        desk.undo();
        desk.set(0, 0, 0, 0);
        desk.undo();
        desk.base(3);
        desk.undo();
        desk.base(NONE);
        desk.undo();
        run(desk, "F:i-i");
        desk.undo();
        desk.split(5, 0, 0);
        desk.undo();
        run(desk, "A:D");
        desk.undo();
        String after = state(desk);
        dueText("the state", after.substring(after.indexOf('|')), before.substring(before.indexOf('|')));
        due("count(0)", desk.count(0), 2);
        due("count(1)", desk.count(1), 5);
    }

    @Sentence("Promise 20: undo of a restore, too")
    void undoOfRestore() {
        PeirceDesk desk = desk(3, 7);
        diagonal(desk, 7, 1, 2, 3);
        desk.base(7);
        desk.save(0);
        desk.begin(2, 3);
        desk.set(0, 0, 1, 2);
        desk.restore(0);
        due("undo()", desk.undo(), 5);
        due("count(0)", desk.count(0), 2);
        due("count(1)", desk.count(1), 3);
        element("A", desk, 0, 0, 2, 0);
        element("H", desk, 7, 0, 0, 0);
        element("the base", desk, 8, 1, 0, 1);
        element("the unit", desk, 9, 1, 0, 1);
    }

    @Sentence("Promise 20: everything except the pad: undo leaves it, be it longer, shorter or empty")
    void undoLeavesThePad() {
        PeirceDesk desk = new PeirceDesk();
        Checks.type(desk, "A=");
        desk.set(0, 0, 0, 0);
        desk.set(0, 0, 0, 0);
        Checks.type(desk, "A");
        desk.undo();
        due("count(4)", desk.count(4), 3);
        due("holds()", desk.holds(), 1);
        desk.wipe();
        desk.undo();
        due("count(4)", desk.count(4), 0);
        run(desk, "A:i");
        desk.undo();
        due("count(4) behind run and undo", desk.count(4), 0);
    }

    @Sentence("Promise 20: everything except the slots: undo leaves them")
    void undoLeavesTheSlots() {
        PeirceDesk desk = new PeirceDesk();
        desk.save(0);
        desk.begin(3, 7);
        desk.save(1);
        desk.save(0);
        desk.undo();
        due("count(0)", desk.count(0), 2);
        due("restore(0)", desk.restore(0), 3);
        due("restore(1)", desk.restore(1), 3);
    }

    // ---- promise 21

    @Sentence("Promise 21: save, slot 0 or 1, BAD_VALUE if there is no such slot")
    void saveSlot() {
        for (int size : SIZES) {
            PeirceDesk desk = desk(size, 5);
            range("save(slot)", desk::save, 0, 1, BAD_VALUE);
            each("save(slot)", desk::save, BAD_VALUE, NONE, 4, 5);
        }
    }

    @Sentence("Promise 21: save returns the size, 2 or 3")
    void saveReturns() {
        for (int size : SIZES) {
            PeirceDesk desk = desk(size, 11);
            each("save", desk::save, size, 0, 1, 0);
        }
    }

    @Sentence("Promise 21: save saves in the slot that is named, and leaves the other one")
    void saveEachSlot() {
        PeirceDesk desk = new PeirceDesk();
        desk.save(1);
        due("restore(0), where nothing was saved", desk.restore(0), NOT_POSSIBLE);
        desk.begin(3, 7);
        desk.save(0);
        due("restore(1)", desk.restore(1), 2);
        due("restore(0)", desk.restore(0), 3);
        PeirceDesk other = new PeirceDesk();
        other.save(0);
        due("restore(1), where nothing was saved", other.restore(1), NOT_POSSIBLE);
    }

    @Sentence("Promise 21: save overwrites what was saved there")
    void saveOverwrites() {
        for (int slot = 0; slot < 2; slot++) {
            PeirceDesk desk = desk(3, 7);
            diagonal(desk, 0, 1, 2, 3);
            desk.save(slot);
            desk.begin(2, 3);
            desk.set(0, 0, 1, 2);
            desk.save(slot);
            desk.begin(3, 11);
            due("restore", desk.restore(slot), 2);
            due("count(1)", desk.count(1), 3);
            element("A", desk, 0, 0, 2, 0);
        }
    }

    @Sentence("Promise 21: save saves everything: the size, the modulus, the registers and the base")
    void saveEverything() {
        PeirceDesk desk = filled();
        diagonal(desk, 7, 3, 4);
        desk.base(0);
        String before = state(desk);
        desk.save(0);
        desk.begin(3, 11);
        desk.restore(0);
        String after = state(desk);
        dueText("the state", after, before);
        due("count(3)", desk.count(3), 0x76);
    }

    @Sentence("Promise 21: save, except the pad, the history and the slots, and is no change")
    void saveLeaves() {
        PeirceDesk desk = new PeirceDesk();
        Checks.type(desk, "A=");
        desk.set(0, 0, 0, 1);
        desk.save(0);
        due("count(5)", desk.count(5), 1);
        due("count(4)", desk.count(4), 2);
        desk.put('A');
        desk.save(1);
        desk.set(0, 0, 0, 2);
        desk.restore(0);
        due("count(4)", desk.count(4), 3);
        due("holds()", desk.holds(), 1);
        due("count(5)", desk.count(5), 3);
        desk.wipe();
        desk.restore(1);
        due("count(4)", desk.count(4), 0);
        due("restore(1)", desk.restore(1), 2);
    }

    // ---- promise 22

    @Sentence("Promise 22: restore, slot 0 or 1, BAD_VALUE if there is no such slot")
    void restoreSlot() {
        PeirceDesk desk = new PeirceDesk();
        desk.save(0);
        desk.save(1);
        range("restore(slot)", desk::restore, 0, 1, BAD_VALUE);
        each("restore(slot)", desk::restore, BAD_VALUE, NONE, 4, 5);
        PeirceDesk other = new PeirceDesk();
        each("restore(slot) of a new desk", other::restore, BAD_VALUE, -1, 2, LEAST, MOST);
    }

    @Sentence("Promise 22: restore, NOT_POSSIBLE if nothing was saved in it")
    void restoreOfNothing() {
        PeirceDesk desk = filled();
        each("restore", desk::restore, NOT_POSSIBLE, 0, 1);
        desk.save(0);
        due("restore(1)", desk.restore(1), NOT_POSSIBLE);
        due("restore(0)", desk.restore(0), 2);
        desk.begin(3, 3);
        due("restore(1) behind begin", desk.restore(1), NOT_POSSIBLE);
        desk.undo();
        due("restore(1) behind undo", desk.restore(1), NOT_POSSIBLE);
    }

    @Sentence("Promise 22: restore returns the size then, 2 or 3")
    void restoreReturns() {
        PeirceDesk desk = new PeirceDesk();
        desk.save(0);
        desk.begin(3, 3);
        desk.save(1);
        due("restore(0) from 3", desk.restore(0), 2);
        due("count(0)", desk.count(0), 2);
        due("restore(0) from 2", desk.restore(0), 2);
        due("restore(1) from 2", desk.restore(1), 3);
        due("count(0)", desk.count(0), 3);
    }

    @Sentence("Promise 22: restore restores what was saved last in a slot, whatever came later")
    void restoreOfTheLatest() {
        PeirceDesk desk = filled();
        desk.save(0);
        desk.set(0, 0, 0, 4);
        desk.base(3);
        desk.save(0);
        desk.set(0, 0, 0, 0);
        desk.base(NONE);
        desk.restore(0);
        element("A", desk, 0, 4, 2, 3);
        element("the base", desk, 8, 0, 1, 0);
        element("the unit", desk, 9, 0, 1, 0);
        desk.undo();
        element("A, undone", desk, 0, 0, 2, 3);
    }

    @Sentence("Promise 22: restore, the slot keeps it, also if it is changed afterwards")
    void restoreKeeps() {
        PeirceDesk desk = filled();
        desk.save(1);
        for (int round = 0; round < 3; round++) {
            due("restore(1)", desk.restore(1), 2);
            element("A", desk, 0, 1, 2, 3);
            element("the base", desk, 8, 1, 0, 1);
            desk.set(0, 0, 0, 4);
            desk.base(0);
        }
    }

    @Sentence("Promise 22: restore is a change, also if nothing is different then")
    void restoreIsChange() {
        PeirceDesk desk = new PeirceDesk();
        desk.save(0);
        due("count(5)", desk.count(5), 0);
        desk.restore(0);
        due("count(5)", desk.count(5), 1);
        desk.set(0, 0, 0, 3);
        desk.restore(0);
        due("count(5)", desk.count(5), 3);
        due("undo()", desk.undo(), 2);
        element("A, undone", desk, 0, 3, 0, 0);
    }

    @Sentence("Promise 22: restore as the seventh change drops the oldest one, and leaves the rest of the history")
    void restoreAsTheSeventh() {
        PeirceDesk desk = changed(6);
        desk.save(0);
        desk.restore(0);
        due("count(5)", desk.count(5), 6);
        due("entry(0, 0, 0)", desk.entry(0, 0, 0), 6);
        int[] numbers = {6, 5, 4, 3, 2, 0};
        for (int k = 0; k < 6; k++) {
            due("undo()", desk.undo(), 5 - k);
            due("entry(0, 0, 0)", desk.entry(0, 0, 0), numbers[k]);
        }
        due("count(1)", desk.count(1), 11);
    }
}
