import java.lang.reflect.Method;
import java.lang.reflect.Modifier;
import java.util.Arrays;
import java.util.Comparator;

/**
 * Long runs of calls, on the desk and on the model of the document; each answer has to be the same,
 * and from time to time the whole state is read. The calls are chosen by a counted sequence of
 * numbers, so that every run of this test is the same.
 */
public final class ModelTest {
    private static final int RUNS = 480;
    /* Runs in which half of the calls have any arguments at all. */
    private static final int WILD_RUNS = 240;
    private static final int CALLS = 512;
    private static final int ELEMENTS = 10, COUNTS = 7;
    /* No longer, so that the calls of one step are less than 70. */
    private static final int LONGEST_TEXT = 160;
    private static final int[] MODULI = {3, 5, 7, 11};
    private static final int[] WILD = {Integer.MIN_VALUE, Integer.MIN_VALUE + 1, Integer.MAX_VALUE, Integer.MAX_VALUE - 1,
        -256, 255, 256, 1 << 16, -(1 << 16), 1999, 2000, 2001, PeirceDesk.NONE};
    private static final Method[] METHODS = PeirceDesk.class.getDeclaredMethods();

    private final Checks checks;
    private long seed;
    private PeirceDesk desk;
    private Model model;
    private int calls;
    private final boolean isWild;

    private ModelTest(Checks checks, long seed, boolean isWild) {
        this.checks = checks;
        this.seed = seed;
        this.isWild = isWild;
        desk = new PeirceDesk();
        model = new Model();
    }

    public static void main(String[] arguments) throws ReflectiveOperationException {
        Checks checks = new Checks("ModelTest");
        /* The machine tells the methods in any order. */
        Arrays.sort(METHODS, Comparator.comparing(Method::toString));
        for (int run = 1; run <= RUNS + WILD_RUNS && !checks.anyWrong(); run++) {
            new ModelTest(checks, run * 7919L, run > RUNS).go(run);
        }
        countParts(checks);
        checks.finish();
    }

    private int below(int bound) {
        seed = seed * 6364136223846793005L + 1442695040888963407L;
        return (int) ((seed >>> 33) % bound);
    }

    private boolean oneIn(int many) {
        return below(many) == 0;
    }

    private void due(String call, int got, int want) {
        calls++;
        checks.due(call + " (call " + calls + ", pad " + model.pad + ")", got, want);
    }

    private void go(int run) throws ReflectiveOperationException {
        int size = 2 + run % 2;
        int modulus = MODULI[run / 2 % 4];
        begin(size, modulus);
        while (calls < CALLS - 70 && !checks.anyWrong()) {
            if (isWild && oneIn(2)) {
                wild();
            } else {
                step();
            }
        }
        while (calls + ELEMENTS + COUNTS <= CALLS && !checks.anyWrong()) {
            readElements();
        }
        for (int what = 0; what < COUNTS; what++) {
            due("count(" + what + ")", desk.count(what), model.count(what));
        }
    }

    private void step() {
        switch (below(30)) {
            case 0:
                if (oneIn(4)) {
                    begin(oneIn(6) ? below(6) - 1 : 2 + below(2), oneIn(6) ? below(14) - 1 : MODULI[below(4)]);
                }
                break;
            case 1: case 2: case 3:
                set(register(), row(), row(), oneIn(12) ? below(14) - 2 : below(model.now.p));
                break;
            case 4: case 5:
                fill(below(8));
                break;
            case 6: case 7:
                plant(below(8));
                break;
            case 8:
                int by = oneIn(4) ? NONE() : register();
                due("base(" + by + ")", desk.base(by), model.base(by));
                break;
            case 9: case 10:
                split();
                break;
            case 11:
                ask();
                break;
            case 12: case 13: case 14: case 15: case 16:
                text();
                break;
            case 17:
                due("undo()", desk.undo(), model.undo());
                break;
            case 18:
                int slot = oneIn(8) ? below(6) - 2 : below(2);
                due("save(" + slot + ")", desk.save(slot), model.save(slot));
                break;
            case 19:
                int from = oneIn(8) ? below(6) - 2 : below(2);
                due("restore(" + from + ")", desk.restore(from), model.restore(from));
                break;
            case 20: case 21:
                int what = below(8) - 1;
                due("count(" + what + ")", desk.count(what), model.count(what));
                break;
            default:
                ask();
                break;
        }
    }

    /** Calls any method with arguments of which some are far outside of what is allowed. */
    private void wild() throws ReflectiveOperationException {
        Method method = METHODS[below(METHODS.length)];
        if (!Modifier.isPublic(method.getModifiers())) {
            return;
        }
        Class<?>[] types = method.getParameterTypes();
        Object[] arguments = new Object[types.length];
        for (int k = 0; k < types.length; k++) {
            if (types[k] == long.class) {
                arguments[k] = wildCharacters();
            } else {
                int argument = oneIn(2) ? below(3) : oneIn(2) ? below(16) - 4 : WILD[below(WILD.length)];
                arguments[k] = argument;
            }
        }
        Method due = Model.class.getDeclaredMethod(method.getName(), types);
        due(method.getName() + Arrays.toString(arguments), (Integer) method.invoke(desk, arguments), (Integer) due.invoke(model, arguments));
    }

    private long wildCharacters() {
        long characters = 0;
        for (int k = below(9); k > 0; k--) {
            characters = characters << 8 | (oneIn(9) ? below(256) : "AB:=+-(iv)2*".charAt(below(12)));
        }
        return oneIn(9) ? seed : characters;
    }

    private static int NONE() {
        return PeirceDesk.NONE;
    }

    private int register() {
        return oneIn(15) ? below(14) - 3 : below(8);
    }

    private int row() {
        return oneIn(15) ? below(6) - 2 : below(model.now.size);
    }

    private void begin(int size, int modulus) {
        due("begin(" + size + ", " + modulus + ")", desk.begin(size, modulus), model.begin(size, modulus));
    }

    private void set(int register, int row, int column, int number) {
        due("set(" + register + ", " + row + ", " + column + ", " + number + ")",
                desk.set(register, row, column, number), model.set(register, row, column, number));
    }

    private void write(int register, int[][] element) {
        for (int row = 0; row < element.length; row++) {
            for (int column = row; column < element.length; column++) {
                set(register, row, column, element[row][column]);
            }
        }
    }

    private void fill(int register) {
        int size = model.now.size;
        int[][] element = new int[size][size];
        for (int row = 0; row < size; row++) {
            for (int column = 0; column <= row; column++) {
                int number = oneIn(3) ? 0 : below(model.now.p);
                element[row][column] = number;
                element[column][row] = number;
            }
        }
        write(register, element);
    }

    /** Writes an element that is its own square, of rank 1 or of its size less 1. */
    private void plant(int register) {
        int size = model.now.size;
        int[] x = new int[size];
        for (int k = 0; k < size; k++) {
            x[k] = below(model.now.p);
        }
        int[][] outer = new int[size][size];
        long scale = 0;
        for (int row = 0; row < size; row++) {
            for (int column = 0; column < size; column++) {
                outer[row][column] = model.mod(x[row] * x[column]);
                scale += x[row] * model.now.base[row][column] * x[column];
            }
        }
        if (model.mod(scale) == 0) {
            write(register, outer);
            return;
        }
        int[][] e = model.combined(new int[size][size], model.inverse(model.mod(scale)), outer);
        write(register, oneIn(3) ? model.combined(model.unit(), -1, e) : e);
    }

    private void split() {
        int by = register();
        int squares = model.count(3);
        if (!oneIn(6)) {
            by = below(8);
            for (int k = 0; k < 8 && (squares >> by & 1) == 0; k++) {
                by = (by + 1) % 8;
            }
        }
        int element = register();
        int to = oneIn(10) ? below(12) - 3 : below(6);
        due("split(" + by + ", " + element + ", " + to + ")", desk.split(by, element, to), model.split(by, element, to));
    }

    private void ask() {
        int register = register();
        switch (below(10)) {
            case 0:
                readOne(below(12) - 1, row(), row());
                break;
            case 1: case 2: case 3:
                int of = oneIn(3) ? below(12) - 1 : register;
                int what = below(10) - 1;
                due("of(" + of + ", " + what + ")", desk.of(of, what), model.of(of, what));
                break;
            case 4:
                int other = register();
                due("areSame(" + register + ", " + other + ")", desk.areSame(register, other), model.areSame(register, other));
                break;
            case 5:
                int power = oneIn(8) ? below(3) * 2000 - below(3) + 1 : oneIn(2) ? below(20) : below(2001);
                int row = row();
                int column = row();
                due("power(" + register + ", " + power + ", " + row + ", " + column + ")",
                        desk.power(register, power, row, column), model.power(register, power, row, column));
                break;
            case 6:
                int b = register();
                int c = register();
                int side = below(4) == 0 ? below(5) - 1 : below(2);
                due("rule(" + register + ", " + b + ", " + c + ", " + side + ")",
                        desk.rule(register, b, c, side), model.rule(register, b, c, side));
                break;
            case 7: case 8:
                int part = oneIn(10) ? below(6) - 2 : below(3);
                due("partSize(" + register + ", " + part + ")", desk.partSize(register, part), model.partSize(register, part));
                break;
            default:
                int kind = below(6) - 1;
                due("howMany(" + kind + ")", desk.howMany(kind), model.howMany(kind));
                break;
        }
    }

    private void readOne(int register, int row, int column) {
        due("entry(" + register + ", " + row + ", " + column + ")",
                desk.entry(register, row, column), model.entry(register, row, column));
    }

    private void readElements() {
        for (int register = 0; register < ELEMENTS; register++) {
            int row = below(model.now.size);
            int column = below(model.now.size);
            readOne(register, row, column);
        }
    }

    // ---- texts

    private void text() {
        if (oneIn(3)) {
            due("wipe()", desk.wipe(), model.wipe());
        }
        String text = oneIn(8) ? noise() : oneIn(2) ? (char) ('A' + below(8)) + ":" + sum(3) : equation();
        if (oneIn(5) && text.length() > 1) {
            text = damaged(text);
        }
        text = text.substring(0, Math.min(LONGEST_TEXT, text.length()));
        for (int from = 0; from < text.length(); from += 8) {
            put(Checks.packed(text.substring(from, Math.min(from + 8, text.length()))));
        }
        if (oneIn(10)) {
            put(oneIn(2) ? seed : below(70000));
        }
        due("fault()", desk.fault(), model.fault());
        due("stops()", desk.stops(), model.stops());
        due("holds()", desk.holds(), model.holds());
        if (!oneIn(4)) {
            due("run()", desk.run(), model.run());
        }
        if (!oneIn(3)) {
            due("wipe()", desk.wipe(), model.wipe());
        }
    }

    private void put(long characters) {
        due("put(" + characters + ")", desk.put(characters), model.put(characters));
    }

    private String equation() {
        String side = sum(2);
        return side + "=" + (oneIn(3) ? side : sum(2));
    }

    private String sum(int depth) {
        StringBuilder sum = new StringBuilder(term(depth));
        while (oneIn(3)) {
            sum.append(oneIn(2) ? '+' : '-').append(term(depth));
        }
        return sum.toString();
    }

    private String term(int depth) {
        return oneIn(4) ? below(10) + "*" + factor(depth) : factor(depth);
    }

    private String factor(int depth) {
        int kind = depth == 0 ? below(3) : below(8);
        switch (kind) {
            case 0: case 1:
                return String.valueOf((char) ('A' + below(8)));
            case 2:
                return "i";
            case 3:
                return "(" + sum(depth - 1) + ")";
            case 4:
                return "p(" + sum(depth - 1) + "," + sum(depth - 1) + ")";
            case 5:
                return "u(" + sum(depth - 1) + "," + sum(depth - 1) + ")";
            case 6:
                return "t(" + sum(depth - 1) + "," + sum(depth - 1) + "," + sum(depth - 1) + ")";
            default:
                return "v(" + sum(depth - 1) + ")";
        }
    }

    private String noise() {
        StringBuilder noise = new StringBuilder();
        int length = 1 + below(oneIn(4) ? 60 : 8);
        String signs = "AABHHIi:=+-*,()()((putv059";
        for (int k = 0; k < length; k++) {
            noise.append(signs.charAt(below(signs.length())));
        }
        return noise.toString();
    }

    private String damaged(String text) {
        int place = below(text.length());
        String signs = "ABHIi:=+-*,()putv059a~!";
        char sign = signs.charAt(below(signs.length()));
        switch (below(3)) {
            case 0:
                return text.substring(0, place) + sign + text.substring(place + 1);
            case 1:
                return text.substring(0, place) + text.substring(place + 1);
            default:
                return text.substring(0, place) + sign + text.substring(place);
        }
    }

    /** The exponents once more, by counting the parts of all elements one by one. */
    private static void countParts(Checks checks) {
        ModelTest test = new ModelTest(checks, 5, false);
        for (int round = 0; round < 24; round++) {
            int size = round % 3 == 0 ? 3 : 2;
            test.desk = new PeirceDesk();
            test.model = new Model();
            test.begin(size, size == 3 ? 3 : 3 + round % 3 * 2);
            test.fill(7);
            due(test, 7);
            test.plant(0);
            for (int part = 0; part < 3 && test.model.of(0, 3) == 1; part++) {
                checks.due("partSize(0, " + part + "), counted", test.desk.partSize(0, part),
                        test.model.countedExponent(part, test.model.now.registers[0]));
            }
        }
    }

    private static void due(ModelTest test, int register) {
        test.due("base(" + register + ")", test.desk.base(register), test.model.base(register));
    }
}
