import java.util.function.Consumer;
import java.util.function.Supplier;
import java.util.function.ToLongFunction;

/**
 * Conventions: a call that returns an error changes nothing; nor does one that asks. Each test makes
 * one kind of call on a desk, and reads everything of it that can be read: registers, base, pad,
 * history and slots are as those of a desk on which the call was not made.
 */
public final class NothingChangesTest extends Edges {
    /* Put behind a text they tell what it is, by what its fault then is and what it comes to. */
    private static final String[] ENDS = {"", "A", "=A", ":D", "+2*D", "*A", ")", ",D)", ",A,D)", "D)=A", "(D)", "D:A", "D=A"};

    public static void main(String[] arguments) {
        runAll(NothingChangesTest.class);
    }

    // ---- reading everything

    /** Reading uses a desk up, so one is made for each thing that is read. */
    private static String everything(Supplier<PeirceDesk> made) {
        StringBuilder all = new StringBuilder(state(made.get()));
        for (int many = 1; many <= 7; many++) {
            PeirceDesk undone = made.get();
            for (int k = 0; k < many; k++) {
                all.append("\n undo ").append(undone.undo());
            }
            all.append(' ').append(state(undone));
        }
        for (int slot = 0; slot < 2; slot++) {
            PeirceDesk restored = made.get();
            all.append("\n slot ").append(restored.restore(slot)).append(' ').append(state(restored));
        }
        PeirceDesk changed = made.get();
        all.append("\n set ").append(changed.set(0, 0, 0, 1)).append(' ').append(changed.undo());
        all.append(' ').append(changed.count(5)).append(' ').append(state(changed));
        for (String end : ENDS) {
            PeirceDesk read = made.get();
            all.append("\n pad ").append(Checks.type(read, end)).append(' ').append(read.fault());
            all.append(' ').append(read.stops()).append(' ').append(read.holds()).append(' ').append(read.run());
            all.append(' ').append(state(read)).append(' ').append(read.wipe());
        }
        return all.toString();
    }

    /** With six states in the history, a saved slot and one that is not, and a turned base. */
    private static PeirceDesk desk(int size, int changes, String text) {
        PeirceDesk desk = Edges.desk(size, 5);
        diagonal(desk, 2, 1, 0);
        Checks.write(desk, 0, size == 2 ? new int[] {1, 2, 3} : new int[] {1, 2, 0, 3, 0, 1});
        desk.save(1);
        diagonal(desk, 3, 1, 2, 2);
        desk.base(3);
        desk.set(7, 1, 0, 4);
        desk.set(6, 0, 0, 3);
        for (int left = 6; left > changes; left--) {
            desk.undo();
        }
        Checks.type(desk, text);
        return desk;
    }

    /** The call answers what is due, and nothing is different behind it. */
    private void nothing(String call, long want, int size, String text, ToLongFunction<PeirceDesk> made) {
        for (int changes : new int[] {6, 4, 0}) {
            due(call, made.applyAsLong(desk(size, changes, text)), want);
            dueText("everything behind " + call, everything(() -> after(desk(size, changes, text), made)),
                    everything(() -> desk(size, changes, text)));
        }
    }

    private static PeirceDesk after(PeirceDesk desk, ToLongFunction<PeirceDesk> made) {
        made.applyAsLong(desk);
        return desk;
    }

    /** For calls that do not go by the pad: with an empty one, a formula and an equation. */
    private void nothing(String call, long want, int size, ToLongFunction<PeirceDesk> made) {
        nothing(call, want, size, "", made);
        nothing(call, want, size, "D:A-", made);
        nothing(call, want, size, "A+D=D+A", made);
    }

    // ---- errors

    @Sentence("Conventions: begin that returns BAD_VALUE changes nothing")
    void begin() {
        nothing("begin(4, 5)", BAD_VALUE, 2, desk -> desk.begin(4, 5));
        nothing("begin(1, 7)", BAD_VALUE, 3, desk -> desk.begin(1, 7));
        nothing("begin(3, 9)", BAD_VALUE, 2, desk -> desk.begin(3, 9));
        nothing("begin(2, 13)", BAD_VALUE, 3, desk -> desk.begin(2, 13));
    }

    @Sentence("Conventions: set that returns NO_SUCH changes nothing")
    void setNoSuch() {
        nothing("set(8, 0, 0, 2)", NO_SUCH, 2, desk -> desk.set(8, 0, 0, 2));
        nothing("set(9, 0, 0, 2)", NO_SUCH, 2, desk -> desk.set(9, 0, 0, 2));
        nothing("set(-1, 0, 0, 2)", NO_SUCH, 3, desk -> desk.set(-1, 0, 0, 2));
        nothing("set(0, 2, 0, 2)", NO_SUCH, 2, desk -> desk.set(0, 2, 0, 2));
        nothing("set(0, 2, 2, 2)", NO_SUCH, 2, desk -> desk.set(0, 2, 2, 2));
        nothing("set(0, 0, 3, 2)", NO_SUCH, 3, desk -> desk.set(0, 0, 3, 2));
        nothing("set(0, 1, -1, 2)", NO_SUCH, 2, desk -> desk.set(0, 1, -1, 2));
    }

    @Sentence("Conventions: set that returns BAD_VALUE changes nothing")
    void setBadValue() {
        nothing("set(0, 0, 1, 5)", BAD_VALUE, 2, desk -> desk.set(0, 0, 1, 5));
        nothing("set(0, 0, 0, -1)", BAD_VALUE, 3, desk -> desk.set(0, 0, 0, -1));
    }

    @Sentence("Conventions: base that returns NO_SUCH changes nothing")
    void baseNoSuch() {
        nothing("base(8)", NO_SUCH, 2, desk -> desk.base(8));
        nothing("base(9)", NO_SUCH, 3, desk -> desk.base(9));
        nothing("base(-1)", NO_SUCH, 2, desk -> desk.base(-1));
    }

    @Sentence("Conventions: base that returns NOT_POSSIBLE changes nothing")
    void baseNotPossible() {
        nothing("base(2)", NOT_POSSIBLE, 2, desk -> desk.base(2));
        nothing("base(2)", NOT_POSSIBLE, 3, desk -> desk.base(2));
        nothing("base(5)", NOT_POSSIBLE, 2, desk -> desk.base(5));
    }

    @Sentence("Conventions: split that returns NO_SUCH changes nothing")
    void splitNoSuch() {
        nothing("split(8, 0, 3)", NO_SUCH, 2, desk -> desk.split(8, 0, 3));
        nothing("split(9, 0, 3)", NO_SUCH, 2, desk -> desk.split(9, 0, 3));
        nothing("split(2, 8, 3)", NO_SUCH, 2, desk -> desk.split(2, 8, 3));
        nothing("split(2, 0, 6)", NO_SUCH, 2, desk -> desk.split(2, 0, 6));
        nothing("split(2, 0, -1)", NO_SUCH, 3, desk -> desk.split(2, 0, -1));
    }

    @Sentence("Conventions: split that returns NOT_POSSIBLE changes nothing")
    void splitNotPossible() {
        nothing("split(0, 6, 3)", NOT_POSSIBLE, 2, desk -> desk.split(0, 6, 3));
        nothing("split(0, 6, 3)", NOT_POSSIBLE, 3, desk -> desk.split(0, 6, 3));
    }

    @Sentence("Conventions: run that returns BAD_TEXT changes nothing, the pad neither")
    void runBadText() {
        for (String text : new String[] {"", "A", "D:A-", "D:p(A,", "D:A)", "A=", "D:v(F)+", "D:A-2"}) {
            nothing("run() of " + text, BAD_TEXT, 2, text, PeirceDesk::run);
        }
    }

    @Sentence("Conventions: run of an equation, that returns NOT_POSSIBLE, changes nothing, the pad neither")
    void runOfAnEquation() {
        for (String text : new String[] {"A=D", "D=D", "A=A-", "A=v(F)"}) {
            boolean whole = !text.endsWith("-");
            nothing("run() of " + text, whole ? NOT_POSSIBLE : BAD_TEXT, 2, text, PeirceDesk::run);
        }
    }

    @Sentence("Conventions: run that stops, and returns NOT_POSSIBLE, changes nothing, the pad neither")
    void runThatStops() {
        for (String text : new String[] {"D:v(F)", "D:A+v(F)", "A:2*v(A-A)+D"}) {
            nothing("run() of " + text, NOT_POSSIBLE, 2, text, PeirceDesk::run);
            nothing("run() of " + text, NOT_POSSIBLE, 3, text, PeirceDesk::run);
        }
    }

    @Sentence("Conventions: what there is, asked with an error, changes nothing")
    void askedWithErrors() {
        nothing("entry(10, 0, 0)", NO_SUCH, 2, desk -> desk.entry(10, 0, 0));
        nothing("entry(0, 2, 0)", NO_SUCH, 2, desk -> desk.entry(0, 2, 0));
        nothing("of(10, 0)", NO_SUCH, 2, desk -> desk.of(10, 0));
        nothing("of(0, 8)", BAD_VALUE, 2, desk -> desk.of(0, 8));
        nothing("count(6)", BAD_VALUE, 2, desk -> desk.count(6));
    }

    @Sentence("Conventions: questions that return an error change nothing")
    void questionsWithErrors() {
        nothing("areSame(0, 8)", NO_SUCH, 2, desk -> desk.areSame(0, 8));
        nothing("power(8, 1, 0, 0)", NO_SUCH, 2, desk -> desk.power(8, 1, 0, 0));
        nothing("power(0, 2001, 0, 0)", BAD_VALUE, 2, desk -> desk.power(0, 2001, 0, 0));
        nothing("rule(0, 8, 0, 0)", NO_SUCH, 2, desk -> desk.rule(0, 8, 0, 0));
        nothing("rule(0, 1, 2, 2)", BAD_VALUE, 2, desk -> desk.rule(0, 1, 2, 2));
        nothing("partSize(8, 0)", NO_SUCH, 2, desk -> desk.partSize(8, 0));
        nothing("partSize(1, 3)", BAD_VALUE, 2, desk -> desk.partSize(1, 3));
        nothing("partSize(0, 1)", NOT_POSSIBLE, 2, desk -> desk.partSize(0, 1));
        nothing("howMany(4)", BAD_VALUE, 2, desk -> desk.howMany(4));
        nothing("howMany(0)", NOT_POSSIBLE, 3, desk -> desk.howMany(0));
    }

    @Sentence("Conventions: holds that returns an error changes nothing")
    void holdsWithErrors() {
        nothing("holds() of A=", BAD_TEXT, 2, "A=", PeirceDesk::holds);
        nothing("holds() of nothing", BAD_TEXT, 2, "", PeirceDesk::holds);
        nothing("holds() of a formula", NOT_POSSIBLE, 2, "D:A", PeirceDesk::holds);
        nothing("holds() of A=v(F)", NOT_POSSIBLE, 2, "A=v(F)", PeirceDesk::holds);
    }

    @Sentence("Conventions: stops that returns BAD_TEXT changes nothing")
    void stopsWithErrors() {
        nothing("stops() of D:A-", BAD_TEXT, 2, "D:A-", PeirceDesk::stops);
        nothing("stops() of nothing", BAD_TEXT, 2, "", PeirceDesk::stops);
    }

    @Sentence("Conventions: put that returns BAD_VALUE changes nothing: no character of the number is taken")
    void putBadValue() {
        nothing("put(0)", BAD_VALUE, 2, desk -> desk.put(0));
        nothing("put of space A", BAD_VALUE, 2, desk -> desk.put(0x2041));
        nothing("put of A space", BAD_VALUE, 2, desk -> desk.put(0x4120));
        nothing("put of A 127", BAD_VALUE, 2, desk -> desk.put(0x417f));
        nothing("put of A above zeros", BAD_VALUE, 2, desk -> desk.put(0x410041));
        nothing("put of A above all zeros", BAD_VALUE, 2, desk -> desk.put(0x4100));
    }

    @Sentence("Conventions: put that returns TOO_MANY changes nothing: no character of the number is taken")
    void putTooMany() {
        String text = "D:" + "A+D-".repeat(14);
        nothing("put of three at 58", TOO_MANY, 2, text, desk -> desk.put(Checks.packed("A+D")));
        nothing("put of eight at 58", TOO_MANY, 2, text, desk -> desk.put(Checks.packed("A+D+A+D+")));
        nothing("put of one at 60", TOO_MANY, 2, "D:2*A" + "-D+A".repeat(12) + "+v(i)+D", desk -> desk.put('A'));
    }

    @Sentence("Conventions: undo that returns NOT_POSSIBLE changes nothing")
    void undo() {
        for (String text : new String[] {"", "D:A-", "A=A"}) {
            due("undo()", desk(2, 0, text).undo(), NOT_POSSIBLE);
            dueText("everything behind undo()", everything(() -> after(desk(2, 0, text), PeirceDesk::undo)),
                    everything(() -> desk(2, 0, text)));
        }
    }

    @Sentence("Conventions: save that returns BAD_VALUE changes nothing")
    void save() {
        nothing("save(2)", BAD_VALUE, 2, desk -> desk.save(2));
        nothing("save(-1)", BAD_VALUE, 2, desk -> desk.save(-1));
    }

    @Sentence("Conventions: restore that returns BAD_VALUE changes nothing")
    void restoreBadValue() {
        nothing("restore(2)", BAD_VALUE, 2, desk -> desk.restore(2));
        nothing("restore(-1)", BAD_VALUE, 2, desk -> desk.restore(-1));
    }

    @Sentence("Conventions: restore that returns NOT_POSSIBLE changes nothing")
    void restoreNotPossible() {
        nothing("restore(0)", NOT_POSSIBLE, 2, desk -> desk.restore(0));
    }

    // ---- questions without an error

    /** As nothing, but the answer is not looked at. */
    private void asked(String call, int size, String text, ToLongFunction<PeirceDesk> made) {
        nothing(call, made.applyAsLong(desk(size, 6, text)), size, text, made);
    }

    /** The base is another one with fewer changes, so the answers that go by it are not compared. */
    private void looked(String call, int size, Consumer<PeirceDesk> made) {
        nothing(call, 0, size, desk -> {
            made.accept(desk);
            return 0;
        });
    }

    @Sentence("The public face: entry, of and count tell what there is, and change nothing")
    void whatThereIs() {
        looked("entry(9, 0, 0)", 2, desk -> desk.entry(9, 0, 0));
        for (int what = 0; what < 8; what++) {
            int each = what;
            looked("of(0, " + what + ")", 2, desk -> desk.of(0, each));
            looked("of(8, " + what + ")", 3, desk -> desk.of(8, each));
            looked("count(" + what + ")", 2, desk -> desk.count(each));
        }
    }

    @Sentence("The public face: areSame, power, rule, partSize and howMany are questions; nothing changes")
    void questions() {
        looked("areSame(0, 1)", 2, desk -> desk.areSame(0, 1));
        looked("power(0, 2000, 0, 0)", 2, desk -> desk.power(0, 2000, 0, 0));
        looked("rule(0, 6, 7, 0)", 3, desk -> desk.rule(0, 6, 7, 0));
        looked("rule(0, 6, 7, 1)", 2, desk -> desk.rule(0, 6, 7, 1));
        for (int kind = 0; kind < 4; kind++) {
            int each = kind;
            looked("partSize(4, " + kind + ")", 3, desk -> desk.partSize(4, each));
            looked("howMany(" + kind + ")", 2, desk -> desk.howMany(each));
        }
    }

    @Sentence("Promises 15, 16 and 19: holds, stops and fault tell of the pad, and change nothing")
    void texts() {
        asked("holds() of A=A", 2, "A=A", PeirceDesk::holds);
        asked("holds() of A=v(A)", 2, "A=v(A)", PeirceDesk::holds);
        asked("stops() of D:v(A)", 2, "D:v(A)", PeirceDesk::stops);
        asked("stops() of D:A+v(F)", 3, "D:A+v(F)", PeirceDesk::stops);
        asked("fault() of D:A-", 2, "D:A-", PeirceDesk::fault);
        asked("fault() of D:A)", 2, "D:A)", PeirceDesk::fault);
        asked("fault() of D:A", 2, "D:A", PeirceDesk::fault);
    }
}
