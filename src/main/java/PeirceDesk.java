/**
 * A desk for symmetric matrices modulo a prime number, whose operations go by a base: registers,
 * formulas and equations on a pad, a short history and two slots. What each method promises stands
 * in the document; the promises are numbered there in the order of the methods here.
 */
public final class PeirceDesk {
    public static final int NO_SUCH = -1, BAD_VALUE = -2, BAD_TEXT = -3, TOO_MANY = -4, NOT_POSSIBLE = -5, NONE = -6;

    private static final int REGISTERS = 8, BASE = 8, UNIT = 9, ELEMENTS = 10;
    /* Every element has three rows and columns here; at the size 2 the last ones stay 0, so that
       sums and products need not know the size. */
    private static final int SIDE = 3, CELLS = 9;
    private static final int PARTS = 3;
    private static final int MOST_POWER = 2000, POWER_BITS = 11, MOST_POWER_TO_ZERO = 10;
    private static final int PAD_LENGTH = 60, PACKED_CHARACTERS = 8;
    private static final int LOWEST_CODE = 33, HIGHEST_CODE = 126;
    /* Each bracket of a faultless text needs its closing one, too. */
    private static final int MOST_OPEN = PAD_LENGTH / 2;
    private static final int HISTORY_LENGTH = 6, SLOTS = 2;

    private final Algebra algebra;
    private final Pad pad;
    private final Reckoner reckoner;
    private final History history;
    private final State[] slots;
    private final boolean[] saved;

    public PeirceDesk() {
        algebra = new Algebra();
        pad = new Pad();
        reckoner = new Reckoner();
        history = new History();
        slots = new State[SLOTS];
        for (int slot = 0; slot < SLOTS; slot++) {
            slots[slot] = new State();
        }
        saved = new boolean[SLOTS];
    }

    // ---- changes

    public int begin(int size, int modulus) {
        if (size != 2 && size != 3) {
            return BAD_VALUE;
        }
        if (modulus != 3 && modulus != 5 && modulus != 7 && modulus != 11) {
            return BAD_VALUE;
        }
        int before = algebra.now.size;
        history.remember(algebra.now);
        algebra.now.clear(size, modulus);
        return before;
    }

    public int set(int register, int row, int column, int number) {
        if (!isRegister(register) || !isPlace(row, column)) {
            return NO_SUCH;
        }
        if (number < 0 || number >= algebra.now.modulus) {
            return BAD_VALUE;
        }
        history.remember(algebra.now);
        int[] element = algebra.now.elements[register];
        int before = element[SIDE * row + column];
        element[SIDE * row + column] = number;
        element[SIDE * column + row] = number;
        return before;
    }

    public int base(int register) {
        if (register != NONE && !isRegister(register)) {
            return NO_SUCH;
        }
        int determinant = register == NONE ? 1 : algebra.determinant(algebra.now.elements[register]);
        if (determinant == 0) {
            return NOT_POSSIBLE;
        }
        history.remember(algebra.now);
        if (register == NONE) {
            algebra.takeIdentityAsBase();
        } else {
            algebra.takeAsBase(algebra.now.elements[register]);
        }
        return determinant;
    }

    public int split(int by, int register, int to) {
        if (!isRegister(by) || !isRegister(register) || to < 0 || to > REGISTERS - PARTS) {
            return NO_SUCH;
        }
        int[][] elements = algebra.now.elements;
        if (!algebra.isOwnSquare(elements[by])) {
            return NOT_POSSIBLE;
        }
        history.remember(algebra.now);
        algebra.findParts(elements[by], elements[register]);
        int notZero = 0;
        for (int part = 0; part < PARTS; part++) {
            copy(algebra.parts[part], elements[to + PARTS - 1 - part]);
            notZero += isZero(algebra.parts[part]) ? 0 : 1;
        }
        return notZero;
    }

    public int run() {
        if (pad.findFault() != NONE) {
            return BAD_TEXT;
        }
        int register = pad.target();
        if (!isRegister(register) || reckoner.carryOut(pad, algebra) != NONE) {
            return NOT_POSSIBLE;
        }
        history.remember(algebra.now);
        copy(reckoner.result(), algebra.now.elements[register]);
        pad.length = 0;
        return register;
    }

    // ---- what there is

    public int entry(int register, int row, int column) {
        if (!isElement(register) || !isPlace(row, column)) {
            return NO_SUCH;
        }
        return algebra.now.elements[register][SIDE * row + column];
    }

    public int of(int register, int what) {
        if (!isElement(register)) {
            return NO_SUCH;
        }
        int[] element = algebra.now.elements[register];
        switch (what) {
            case 0: return algebra.trace(element);
            case 1: return algebra.determinant(element);
            case 2: return algebra.rank(element);
            case 3: return algebra.isOwnSquare(element) ? 1 : 0;
            case 4: return algebra.determinant(element) != 0 ? 1 : 0;
            case 5: return algebra.order(element);
            case 6: return algebra.degree(element);
            case 7: return algebra.leastZeroPower(element);
            default: return BAD_VALUE;
        }
    }

    public int count(int what) {
        switch (what) {
            case 0: return algebra.now.size;
            case 1: return algebra.now.modulus;
            case 2: return registersNotZero();
            case 3: return registersOwnSquares();
            case 4: return pad.length;
            case 5: return history.length;
            default: return BAD_VALUE;
        }
    }

    // ---- questions; nothing changes

    public int areSame(int register, int other) {
        if (!isRegister(register) || !isRegister(other)) {
            return NO_SUCH;
        }
        return same(algebra.now.elements[register], algebra.now.elements[other]) ? 1 : 0;
    }

    public int power(int register, int power, int row, int column) {
        if (!isRegister(register) || !isPlace(row, column)) {
            return NO_SUCH;
        }
        if (power < 0 || power > MOST_POWER) {
            return BAD_VALUE;
        }
        algebra.raise(algebra.now.elements[register], power);
        return algebra.power[SIDE * row + column];
    }

    public int rule(int a, int b, int c, int what) {
        if (!isRegister(a) || !isRegister(b) || !isRegister(c)) {
            return NO_SUCH;
        }
        if (what != 0 && what != 1) {
            return BAD_VALUE;
        }
        int[][] elements = algebra.now.elements;
        boolean agrees = algebra.tryRule(elements[a], elements[b], elements[c]);
        if (what == 1) {
            return algebra.trace(algebra.oneSide);
        }
        return agrees ? 1 : 0;
    }

    public int partSize(int register, int part) {
        if (!isRegister(register)) {
            return NO_SUCH;
        }
        if (part < 0 || part >= PARTS) {
            return BAD_VALUE;
        }
        int[] element = algebra.now.elements[register];
        if (!algebra.isOwnSquare(element)) {
            return NOT_POSSIBLE;
        }
        int rank = algebra.rank(element);
        return partExponent(part, rank, algebra.now.size - rank);
    }

    public int howMany(int kind) {
        if (kind < 0 || kind > 3) {
            return BAD_VALUE;
        }
        if (algebra.now.size != 2) {
            return NOT_POSSIBLE;
        }
        return algebra.countKind(kind);
    }

    // ---- texts

    public int holds() {
        if (pad.findFault() != NONE) {
            return BAD_TEXT;
        }
        if (pad.target() != NONE || reckoner.carryOut(pad, algebra) != NONE) {
            return NOT_POSSIBLE;
        }
        return same(reckoner.leftSide, reckoner.result()) ? 1 : 0;
    }

    public int stops() {
        return pad.findFault() != NONE ? BAD_TEXT : reckoner.carryOut(pad, algebra);
    }

    public int put(long characters) {
        int more = Pad.charactersIn(characters);
        if (more == 0) {
            return BAD_VALUE;
        }
        if (pad.length + more > PAD_LENGTH) {
            return TOO_MANY;
        }
        pad.append(characters, more);
        return pad.length;
    }

    public int wipe() {
        int before = pad.length;
        pad.length = 0;
        return before;
    }

    public int fault() {
        return pad.findFault();
    }

    // ---- undo, saving

    public int undo() {
        if (history.length == 0) {
            return NOT_POSSIBLE;
        }
        history.takeBack(algebra.now);
        return history.length;
    }

    public int save(int slot) {
        if (slot < 0 || slot >= SLOTS) {
            return BAD_VALUE;
        }
        slots[slot].copyFrom(algebra.now);
        saved[slot] = true;
        return algebra.now.size;
    }

    public int restore(int slot) {
        if (slot < 0 || slot >= SLOTS) {
            return BAD_VALUE;
        }
        if (!saved[slot]) {
            return NOT_POSSIBLE;
        }
        history.remember(algebra.now);
        algebra.now.copyFrom(slots[slot]);
        return algebra.now.size;
    }

    // ---- helpers of the methods above

    private static boolean isRegister(int register) {
        return register >= 0 && register < REGISTERS;
    }

    private static boolean isElement(int register) {
        return register >= 0 && register < ELEMENTS;
    }

    private boolean isPlace(int row, int column) {
        int size = algebra.now.size;
        return row >= 0 && row < size && column >= 0 && column < size;
    }

    private int registersNotZero() {
        int set = 0;
        for (int register = 0; register < REGISTERS; register++) {
            if (!isZero(algebra.now.elements[register])) {
                set |= 1 << register;
            }
        }
        return set;
    }

    private int registersOwnSquares() {
        int set = 0;
        for (int register = 0; register < REGISTERS; register++) {
            if (algebra.isOwnSquare(algebra.now.elements[register])) {
                set |= 1 << register;
            }
        }
        return set;
    }

    /**
     * An element that is its own square splits the columns into as many as its rank and the rest.
     * In a basis of that kind, part 2 is a symmetric block on the first ones, part 0 one on the
     * rest, and part 1 the block between them.
     */
    private static int partExponent(int part, int rank, int rest) {
        if (part == 1) {
            return rank * rest;
        }
        int rows = part == 2 ? rank : rest;
        return rows * (rows + 1) / 2;
    }

    // ---- numbers and cells

    private static int reduced(int number, int modulus) {
        if (modulus < 1) {
            return 0;
        }
        int rest = number % modulus;
        return rest < 0 ? rest + modulus : rest;
    }

    private static void copy(int[] from, int[] to) {
        System.arraycopy(from, 0, to, 0, CELLS);
    }

    private static boolean same(int[] one, int[] other) {
        for (int cell = 0; cell < CELLS; cell++) {
            if (one[cell] != other[cell]) {
                return false;
            }
        }
        return true;
    }

    private static boolean isZero(int[] element) {
        for (int cell = 0; cell < CELLS; cell++) {
            if (element[cell] != 0) {
                return false;
            }
        }
        return true;
    }

    /** The number of a register's letter, NONE for any other character. */
    private static int registerOf(char sign) {
        return sign >= 'A' && sign < 'A' + REGISTERS ? sign - 'A' : NONE;
    }

    /** All that undo takes back and a slot keeps. */
    private static final class State {
        private int size;
        private int modulus;
        /* The registers, then the base and the unit. */
        private final int[][] elements;

        State() {
            elements = new int[ELEMENTS][CELLS];
            clear(2, 5);
        }

        private void clear(int newSize, int newModulus) {
            size = newSize;
            modulus = newModulus;
            for (int register = 0; register < REGISTERS; register++) {
                for (int cell = 0; cell < CELLS; cell++) {
                    elements[register][cell] = 0;
                }
            }
            writeIdentity(elements[BASE]);
            writeIdentity(elements[UNIT]);
        }

        private void writeIdentity(int[] into) {
            for (int row = 0; row < SIDE; row++) {
                for (int column = 0; column < SIDE; column++) {
                    into[SIDE * row + column] = row == column && row < size ? 1 : 0;
                }
            }
        }

        private void copyFrom(State other) {
            size = other.size;
            modulus = other.modulus;
            for (int element = 0; element < ELEMENTS; element++) {
                copy(other.elements[element], elements[element]);
            }
        }
    }

    /** The latest states, in a ring. */
    private static final class History {
        private final State[] states;
        private int next;
        private int length;

        History() {
            states = new State[HISTORY_LENGTH];
            for (int index = 0; index < HISTORY_LENGTH; index++) {
                states[index] = new State();
            }
        }

        private void remember(State state) {
            states[next].copyFrom(state);
            next = next == HISTORY_LENGTH - 1 ? 0 : next + 1;
            length = Math.min(length + 1, HISTORY_LENGTH);
        }

        private void takeBack(State into) {
            if (length > 0) {
                next = next == 0 ? HISTORY_LENGTH - 1 : next - 1;
                length--;
                into.copyFrom(states[next]);
            }
        }
    }

    /** Rows of numbers that are brought to their simplest form by Gauss and Jordan's way. */
    private static final class Rows {
        private final int[][] cells;
        private int modulus;
        /* The product of the pivots, negated by each exchange of rows. */
        private int pivots;

        Rows() {
            cells = new int[SIDE + 1][CELLS];
        }

        /** Puts an element into the first columns and the identity matrix into the next ones. */
        private void load(int[] element, State state) {
            modulus = state.modulus;
            for (int row = 0; row < SIDE; row++) {
                for (int column = 0; column < SIDE; column++) {
                    cells[row][column] = element[SIDE * row + column];
                    cells[row][SIDE + column] = row == column && row < state.size ? 1 : 0;
                    cells[row][2 * SIDE + column] = 0;
                }
            }
            clearRow(SIDE);
        }

        /** Puts the first elements into a row each. */
        private void loadAll(int[][] elements, int many, int newModulus) {
            modulus = newModulus;
            for (int row = 0; row < cells.length; row++) {
                clearRow(row);
                if (row < many && row < elements.length) {
                    copy(elements[row], cells[row]);
                }
            }
        }

        private void clearRow(int row) {
            for (int column = 0; column < CELLS; column++) {
                cells[row][column] = 0;
            }
        }

        /** Makes pivots in the first columns, and returns how many there are: the rank. */
        private int reduce(int columns) {
            pivots = 1;
            int done = 0;
            for (int column = 0; column < columns && column < CELLS && done < cells.length; column++) {
                int found = pivotRow(column, done);
                if (found != NONE) {
                    exchange(found, done);
                    makePivotOne(done, column);
                    clearColumn(done, column);
                    done++;
                }
            }
            return done;
        }

        private int pivotRow(int column, int from) {
            for (int row = from; row < cells.length; row++) {
                if (cells[row][column] != 0) {
                    return row;
                }
            }
            return NONE;
        }

        private void exchange(int one, int other) {
            if (one != other) {
                for (int column = 0; column < CELLS; column++) {
                    int kept = cells[one][column];
                    cells[one][column] = cells[other][column];
                    cells[other][column] = kept;
                }
                pivots = -pivots;
            }
        }

        private void makePivotOne(int row, int column) {
            int pivot = cells[row][column];
            pivots = reduced(pivots * pivot, modulus);
            int inverse = 0;
            for (int candidate = 1; candidate < modulus; candidate++) {
                if (reduced(pivot * candidate, modulus) == 1) {
                    inverse = candidate;
                }
            }
            for (int each = 0; each < CELLS; each++) {
                cells[row][each] = reduced(cells[row][each] * inverse, modulus);
            }
        }

        private void clearColumn(int pivotRow, int column) {
            for (int row = 0; row < cells.length; row++) {
                int times = row == pivotRow ? 0 : cells[row][column];
                for (int each = 0; each < CELLS && times != 0; each++) {
                    cells[row][each] = reduced(cells[row][each] - times * cells[pivotRow][each], modulus);
                }
            }
        }
    }

    /** The present state, and the operations by its base. Each result may be written over an argument. */
    private static final class Algebra {
        private final State now;
        private final Rows rows;
        /* What the methods below leave for others to read. */
        private final int[][] parts;
        private final int[] power;
        private final int[] oneSide;
        /* What they use on the way. */
        private final int[] left;
        private final int[] right;
        private final int[] square;
        private final int[] otherSide;
        private final int[] candidate;
        private final int[][] powers;

        Algebra() {
            now = new State();
            rows = new Rows();
            parts = new int[PARTS][CELLS];
            power = new int[CELLS];
            oneSide = new int[CELLS];
            left = new int[CELLS];
            right = new int[CELLS];
            square = new int[CELLS];
            otherSide = new int[CELLS];
            candidate = new int[CELLS];
            powers = new int[SIDE + 1][CELLS];
        }

        private int[] unit() {
            return now.elements[UNIT];
        }

        /** The usual product, which must not be written over a factor. */
        private void multiply(int[] one, int[] other, int[] into) {
            for (int row = 0; row < SIDE; row++) {
                for (int column = 0; column < SIDE; column++) {
                    int sum = 0;
                    for (int between = 0; between < SIDE; between++) {
                        sum += one[SIDE * row + between] * other[SIDE * between + column];
                    }
                    into[SIDE * row + column] = reduced(sum, now.modulus);
                }
            }
        }

        /** Half of a matrix and its transpose, together. */
        private void writeSymmetric(int[] matrix, int[] into) {
            for (int row = 0; row < SIDE; row++) {
                for (int column = 0; column < SIDE; column++) {
                    int sum = matrix[SIDE * row + column] + matrix[SIDE * column + row];
                    int even = sum % 2 == 0 ? sum : sum + now.modulus;
                    into[SIDE * row + column] = reduced(even / 2, now.modulus);
                }
            }
        }

        /* All factors being symmetric, the usual product in the other order is the transpose. */
        private void product(int[] a, int[] b, int[] into) {
            multiply(a, now.elements[BASE], left);
            multiply(left, b, right);
            writeSymmetric(right, into);
        }

        private void triple(int[] a, int[] b, int[] c, int[] into) {
            multiply(a, now.elements[BASE], left);
            multiply(left, b, right);
            multiply(right, now.elements[BASE], left);
            multiply(left, c, right);
            writeSymmetric(right, into);
        }

        private void operator(int[] a, int[] b, int[] into) {
            triple(a, b, a, into);
        }

        /** Tells whether there is an inverse, and writes it if so. */
        private boolean inverse(int[] a, int[] into) {
            rows.load(a, now);
            if (rows.reduce(SIDE) != now.size) {
                return false;
            }
            readInverse(into);
            multiply(unit(), into, left);
            multiply(left, unit(), into);
            return true;
        }

        /** Writes the usual inverse of the element that was loaded last, when its rank is the size. */
        private void readInverse(int[] into) {
            for (int row = 0; row < SIDE; row++) {
                for (int column = 0; column < SIDE; column++) {
                    into[SIDE * row + column] = rows.cells[row][SIDE + column];
                }
            }
        }

        private int trace(int[] element) {
            int sum = 0;
            for (int row = 0; row < SIDE; row++) {
                sum += element[SIDE * row + row];
            }
            return reduced(sum, now.modulus);
        }

        private int rank(int[] element) {
            rows.load(element, now);
            return rows.reduce(SIDE);
        }

        private int determinant(int[] element) {
            rows.load(element, now);
            return rows.reduce(SIDE) == now.size ? reduced(rows.pivots, now.modulus) : 0;
        }

        private void takeIdentityAsBase() {
            now.writeIdentity(now.elements[BASE]);
            now.writeIdentity(unit());
        }

        private void takeAsBase(int[] element) {
            if (determinant(element) != 0) {
                readInverse(unit());
                copy(element, now.elements[BASE]);
            }
        }

        private boolean isOwnSquare(int[] element) {
            product(element, element, square);
            return same(square, element);
        }

        private void findParts(int[] by, int[] element) {
            operator(by, element, parts[2]);
            for (int cell = 0; cell < CELLS; cell++) {
                parts[1][cell] = reduced(unit()[cell] - by[cell], now.modulus);
            }
            operator(parts[1], element, parts[0]);
            for (int cell = 0; cell < CELLS; cell++) {
                parts[1][cell] = reduced(element[cell] - parts[2][cell] - parts[0][cell], now.modulus);
            }
        }

        /* The powers of one element may be multiplied in any order, so squares reach far ones fast. */
        private void raise(int[] element, int exponent) {
            copy(unit(), power);
            copy(element, square);
            for (int bit = 0; bit < POWER_BITS; bit++) {
                if ((exponent >> bit & 1) == 1) {
                    product(power, square, power);
                }
                product(square, square, square);
            }
        }

        private int order(int[] element) {
            /* The powers of an element without an inverse have none, but the unit has one. */
            if (determinant(element) == 0) {
                return NONE;
            }
            copy(element, power);
            for (int exponent = 1; exponent <= MOST_POWER; exponent++) {
                if (same(power, unit())) {
                    return exponent;
                }
                product(power, element, power);
            }
            return NONE;
        }

        private int leastZeroPower(int[] element) {
            copy(element, power);
            for (int exponent = 1; exponent <= MOST_POWER_TO_ZERO; exponent++) {
                if (isZero(power)) {
                    return exponent;
                }
                product(power, element, power);
            }
            return NONE;
        }

        /* The powers below the degree are no sums of one another, so with the next one they are as
           many rows as their rank, until that one is a sum. The size is the greatest degree. */
        private int degree(int[] element) {
            copy(unit(), powers[0]);
            for (int exponent = 1; exponent < powers.length; exponent++) {
                product(powers[exponent - 1], element, powers[exponent]);
                rows.loadAll(powers, exponent + 1, now.modulus);
                if (rows.reduce(CELLS) <= exponent) {
                    return exponent;
                }
            }
            return now.size;
        }

        private boolean tryRule(int[] a, int[] b, int[] c) {
            operator(a, b, otherSide);
            operator(otherSide, c, oneSide);
            operator(a, c, otherSide);
            operator(b, otherSide, otherSide);
            operator(a, otherSide, otherSide);
            return same(oneSide, otherSide);
        }

        private int countKind(int kind) {
            int many = 0;
            int modulus = now.modulus;
            for (int corner = 0; corner < modulus; corner++) {
                for (int side = 0; side < modulus; side++) {
                    for (int other = 0; other < modulus; other++) {
                        candidate[0] = corner;
                        candidate[1] = side;
                        candidate[SIDE] = side;
                        candidate[SIDE + 1] = other;
                        many += isOfKind(kind) ? 1 : 0;
                    }
                }
            }
            return many;
        }

        private boolean isOfKind(int kind) {
            if (kind == 1) {
                return determinant(candidate) != 0;
            }
            product(candidate, candidate, square);
            if (kind == 2) {
                /* At the size 2 the degree is at most 2: if a power is 0, the power 2 is. */
                return isZero(square);
            }
            return same(square, kind == 0 ? candidate : unit());
        }
    }

    /** The text, and how it is read. */
    private static final class Pad {
        /* What the next character can begin or be. */
        private static final int TERM = 0, STAR = 1, FACTOR = 2, BRACKET = 3, AFTER = 4;

        private final char[] signs;
        private int length;
        /* While the text is read: the commas that are still due in each open bracket, how many are
           open, the commas of the bracket that comes next, and whether ":" or "=" was there. */
        private final int[] commas;
        private int open;
        private int nextCommas;
        private int awaited;
        private boolean divided;

        Pad() {
            signs = new char[PAD_LENGTH];
            commas = new int[PAD_LENGTH];
        }

        /** How many characters a number holds; 0 if it is not a number of characters. */
        private static int charactersIn(long packed) {
            long rest = packed;
            int many = 0;
            while (many < PACKED_CHARACTERS && (rest & 255) != 0) {
                int code = (int) (rest & 255);
                if (code < LOWEST_CODE || code > HIGHEST_CODE) {
                    return 0;
                }
                rest >>>= 8;
                many++;
            }
            return rest == 0 ? many : 0;
        }

        private void append(long packed, int many) {
            for (int left = many - 1; left >= 0 && length < PAD_LENGTH; left--) {
                signs[length] = (char) (packed >>> 8 * left & 255);
                length++;
            }
        }

        /** The register of a faultless formula, NONE for an equation. */
        private int target() {
            return length > 1 && signs[1] == ':' ? registerOf(signs[0]) : NONE;
        }

        private int findFault() {
            open = 0;
            nextCommas = 0;
            awaited = TERM;
            divided = false;
            for (int place = 0; place < length; place++) {
                if (!takes(signs[place], place)) {
                    return place;
                }
            }
            return awaited == AFTER && open == 0 && divided ? NONE : length;
        }

        private boolean takes(char sign, int place) {
            switch (awaited) {
                case TERM:
                    return takesDigit(sign) || takesFactor(sign);
                case STAR:
                    awaited = FACTOR;
                    return sign == '*';
                case FACTOR:
                    return takesFactor(sign);
                case BRACKET:
                    return sign == '(' && takesBracket();
                default:
                    return open > 0 ? takesInside(sign) : takesOutside(sign, place);
            }
        }

        private boolean takesDigit(char sign) {
            if (sign < '0' || sign > '9') {
                return false;
            }
            awaited = STAR;
            return true;
        }

        private boolean takesFactor(char sign) {
            if (sign == 'i' || registerOf(sign) != NONE) {
                awaited = AFTER;
                return true;
            }
            if (sign == '(') {
                nextCommas = 0;
                return takesBracket();
            }
            nextCommas = sign == 't' ? 2 : sign == 'p' || sign == 'u' ? 1 : 0;
            awaited = BRACKET;
            return nextCommas > 0 || sign == 'v';
        }

        private boolean takesBracket() {
            if (open >= PAD_LENGTH) {
                return false;
            }
            commas[open] = nextCommas;
            open++;
            awaited = TERM;
            return true;
        }

        private boolean takesInside(char sign) {
            int due = commas[open - 1];
            if (sign == ')' && due == 0) {
                open--;
                return true;
            }
            if (sign == ',' && due > 0) {
                commas[open - 1] = due - 1;
                awaited = TERM;
                return true;
            }
            return takesSign(sign);
        }

        private boolean takesOutside(char sign, int place) {
            boolean divides = sign == '=' || sign == ':' && place == 1 && registerOf(signs[0]) != NONE;
            if (divides && !divided) {
                divided = true;
                awaited = TERM;
                return true;
            }
            return takesSign(sign);
        }

        private boolean takesSign(char sign) {
            awaited = TERM;
            return sign == '+' || sign == '-';
        }
    }

    /** A sum that is being reckoned: a whole side, or what stands in a bracket. */
    private static final class Frame {
        private final int[] sum;
        private final int[] first;
        private final int[] second;
        private int arguments;
        private char kind;
        private int place;
        private int sign;
        private int times;

        Frame() {
            sum = new int[CELLS];
            first = new int[CELLS];
            second = new int[CELLS];
        }

        private void open(char newKind, int newPlace) {
            kind = newKind;
            place = newPlace;
            arguments = 0;
            startSum();
        }

        private void startSum() {
            for (int cell = 0; cell < CELLS; cell++) {
                sum[cell] = 0;
            }
            sign = 1;
            times = 1;
        }

        private void add(int[] element, int modulus) {
            for (int cell = 0; cell < CELLS; cell++) {
                sum[cell] = reduced(sum[cell] + sign * times * element[cell], modulus);
            }
            times = 1;
        }

        private void keepArgument() {
            copy(sum, arguments == 0 ? first : second);
            arguments++;
            startSum();
        }

        /** Does with the arguments what the bracket is for; false if there is no inverse. */
        private boolean finish(Algebra algebra) {
            switch (kind) {
                case 'p':
                    algebra.product(first, sum, sum);
                    return true;
                case 'u':
                    algebra.operator(first, sum, sum);
                    return true;
                case 't':
                    algebra.triple(first, second, sum, sum);
                    return true;
                case 'v':
                    return algebra.inverse(sum, sum);
                default:
                    return true;
            }
        }
    }

    /** Carries a faultless text out. */
    private static final class Reckoner {
        private final Frame[] frames;
        private int open;
        private final int[] leftSide;

        Reckoner() {
            frames = new Frame[MOST_OPEN];
            for (int depth = 0; depth < MOST_OPEN; depth++) {
                frames[depth] = new Frame();
            }
            leftSide = new int[CELLS];
        }

        /** The value of a formula, or of an equation's right side. */
        private int[] result() {
            return frames[0].sum;
        }

        /** Returns the place at which the text stops, or NONE. */
        private int carryOut(Pad pad, Algebra algebra) {
            open = 0;
            frames[0].open('(', 0);
            char before = '(';
            for (int place = pad.target() == NONE ? 0 : 2; place < pad.length; place++) {
                char sign = pad.signs[place];
                if (sign == '(') {
                    openBracket(before, place - 1);
                } else if (sign == ')') {
                    if (!frames[open].finish(algebra)) {
                        return frames[open].place;
                    }
                    closeBracket(algebra.now.modulus);
                } else {
                    read(sign, frames[open], algebra.now);
                }
                before = sign;
            }
            return NONE;
        }

        private void openBracket(char before, int place) {
            if (open + 1 < frames.length) {
                open++;
                frames[open].open(before, place);
            }
        }

        private void closeBracket(int modulus) {
            if (open > 0) {
                open--;
                frames[open].add(frames[open + 1].sum, modulus);
            }
        }

        private void read(char sign, Frame frame, State state) {
            int register = registerOf(sign);
            if (register != NONE) {
                frame.add(state.elements[register], state.modulus);
            } else if (sign == 'i') {
                frame.add(state.elements[UNIT], state.modulus);
            } else if (sign >= '0' && sign <= '9') {
                frame.times = sign - '0';
            } else if (sign == '+' || sign == '-') {
                frame.sign = sign == '+' ? 1 : -1;
            } else if (sign == ',') {
                frame.keepArgument();
            } else if (sign == '=') {
                copy(frame.sum, leftSide);
                frame.startSum();
            }
        }
    }
}
