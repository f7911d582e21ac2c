import java.util.ArrayDeque;
import java.util.ArrayList;
import java.util.Deque;
import java.util.HashSet;
import java.util.List;
import java.util.Set;

/**
 * The document written down a second time, as slowly and as literally as it goes: matrices have as
 * many rows as the size, both orders of a product are multiplied out, powers are reached one by one,
 * ranks are found by minors, degrees by trying all sums, and texts are read by recursive descent.
 */
final class Model {
    private static final int NO_SUCH = -1, BAD_VALUE = -2, BAD_TEXT = -3, TOO_MANY = -4, NOT_POSSIBLE = -5, NONE = -6;

    /** What undo and the slots keep; never changed once it is made, but copied. */
    static final class State {
        int size = 2;
        int p = 5;
        int[][] base = identity(2);
        int[][][] registers = zeros(2);

        State copy() {
            State other = new State();
            other.size = size;
            other.p = p;
            other.base = cloned(base);
            other.registers = new int[8][][];
            for (int k = 0; k < 8; k++) {
                other.registers[k] = cloned(registers[k]);
            }
            return other;
        }
    }

    private static final class Fault extends RuntimeException {
        final int place;

        Fault(int place) {
            this.place = place;
        }
    }

    private static final class Stop extends RuntimeException {
        final int place;

        Stop(int place) {
            this.place = place;
        }
    }

    State now = new State();
    String pad = "";
    private final Deque<State> history = new ArrayDeque<>();
    private final State[] slots = new State[2];

    static int[][] identity(int size) {
        int[][] matrix = new int[size][size];
        for (int k = 0; k < size; k++) {
            matrix[k][k] = 1;
        }
        return matrix;
    }

    private static int[][][] zeros(int size) {
        return new int[8][size][size];
    }

    private static int[][] cloned(int[][] matrix) {
        int[][] other = new int[matrix.length][];
        for (int k = 0; k < matrix.length; k++) {
            other[k] = matrix[k].clone();
        }
        return other;
    }

    // ---- matrices

    int mod(long number) {
        return (int) Math.floorMod(number, (long) now.p);
    }

    int half(int number) {
        for (int h = 0; h < now.p; h++) {
            if (mod(2L * h) == mod(number)) {
                return h;
            }
        }
        throw new IllegalStateException();
    }

    int inverse(int number) {
        for (int k = 0; k < now.p; k++) {
            if (mod((long) k * number) == 1) {
                return k;
            }
        }
        throw new IllegalStateException();
    }

    int[][] usual(int[][] first, int[][]... others) {
        int[][] result = first;
        for (int[][] other : others) {
            int n = now.size;
            int[][] next = new int[n][n];
            for (int r = 0; r < n; r++) {
                for (int c = 0; c < n; c++) {
                    long sum = 0;
                    for (int k = 0; k < n; k++) {
                        sum += result[r][k] * other[k][c];
                    }
                    next[r][c] = mod(sum);
                }
            }
            result = next;
        }
        return result;
    }

    int[][] combined(int[][] a, int times, int[][] b) {
        int n = now.size;
        int[][] result = new int[n][n];
        for (int r = 0; r < n; r++) {
            for (int c = 0; c < n; c++) {
                result[r][c] = mod(a[r][c] + (long) times * b[r][c]);
            }
        }
        return result;
    }

    int[][] halved(int[][] a) {
        int n = now.size;
        int[][] result = new int[n][n];
        for (int r = 0; r < n; r++) {
            for (int c = 0; c < n; c++) {
                result[r][c] = half(a[r][c]);
            }
        }
        return result;
    }

    static boolean same(int[][] a, int[][] b) {
        return java.util.Arrays.deepEquals(a, b);
    }

    boolean isZero(int[][] a) {
        return same(a, new int[now.size][now.size]);
    }

    /** The determinant by its first row; an empty matrix has 1. */
    long determinant(int[][] a) {
        if (a.length == 0) {
            return 1;
        }
        long sum = 0;
        for (int c = 0; c < a.length; c++) {
            sum += (c % 2 == 0 ? 1 : -1) * a[0][c] * determinant(without(a, 0, c));
        }
        return mod(sum);
    }

    private static int[][] without(int[][] a, int row, int column) {
        int[][] minor = new int[a.length - 1][a.length - 1];
        for (int r = 0, to = 0; r < a.length; r++) {
            if (r == row) {
                continue;
            }
            for (int c = 0, at = 0; c < a.length; c++) {
                if (c != column) {
                    minor[to][at++] = a[r][c];
                }
            }
            to++;
        }
        return minor;
    }

    /** By Cramer's rule; null if there is none. */
    int[][] usualInverse(int[][] a) {
        int d = (int) determinant(a);
        if (d == 0) {
            return null;
        }
        int n = now.size;
        int[][] result = new int[n][n];
        for (int r = 0; r < n; r++) {
            for (int c = 0; c < n; c++) {
                long sign = (r + c) % 2 == 0 ? 1 : -1;
                result[r][c] = mod(sign * determinant(without(a, c, r)) * inverse(d));
            }
        }
        return result;
    }

    int rank(int[][] a) {
        if (determinant(a) != 0) {
            return now.size;
        }
        if (now.size == 3) {
            for (int r = 0; r < 3; r++) {
                for (int c = 0; c < 3; c++) {
                    if (determinant(without(a, r, c)) != 0) {
                        return 2;
                    }
                }
            }
        }
        return isZero(a) ? 0 : 1;
    }

    // ---- operations

    int[][] unit() {
        return usualInverse(now.base);
    }

    int[][] product(int[][] a, int[][] b) {
        return halved(combined(usual(a, now.base, b), 1, usual(b, now.base, a)));
    }

    int[][] operator(int[][] a, int[][] b) {
        return usual(a, now.base, b, now.base, a);
    }

    int[][] triple(int[][] a, int[][] b, int[][] c) {
        int[][] u = now.base;
        return halved(combined(usual(a, u, b, u, c), 1, usual(c, u, b, u, a)));
    }

    int[][] power(int[][] a, int k) {
        int[][] result = unit();
        for (int step = 0; step < k; step++) {
            result = product(result, a);
        }
        return result;
    }

    /** null if there is none. */
    int[][] inverse(int[][] a) {
        int[][] w = usualInverse(a);
        return w == null ? null : usual(unit(), w, unit());
    }

    boolean ownSquare(int[][] a) {
        return same(product(a, a), a);
    }

    int[][] part(int part, int[][] e, int[][] b) {
        int[][] two = operator(e, b);
        int[][] zero = operator(combined(unit(), -1, e), b);
        return part == 2 ? two : part == 0 ? zero : combined(combined(b, -1, two), -1, zero);
    }

    private int order(int[][] a) {
        int[][] power = a;
        int[][] unit = unit();
        for (int k = 1; k <= 2000; k++) {
            if (same(power, unit)) {
                return k;
            }
            power = product(power, a);
        }
        return NONE;
    }

    private int degree(int[][] a) {
        List<int[][]> lower = new ArrayList<>();
        lower.add(unit());
        for (int k = 1; ; k++) {
            int[][] power = power(a, k);
            if (isSum(power, lower, 0)) {
                return k;
            }
            lower.add(power);
        }
    }

    private boolean isSum(int[][] target, List<int[][]> of, int from) {
        if (from == of.size()) {
            return isZero(target);
        }
        for (int times = 0; times < now.p; times++) {
            if (isSum(combined(target, -times, of.get(from)), of, from + 1)) {
                return true;
            }
        }
        return false;
    }

    private int zeroPower(int[][] a) {
        for (int k = 1; k <= 10; k++) {
            if (isZero(power(a, k))) {
                return k;
            }
        }
        return NONE;
    }

    /** Elements that are such parts: spanned from the parts of the elements with a single 1. */
    private int exponent(int part, int[][] e) {
        int n = now.size;
        List<int[]> basis = new ArrayList<>();
        for (int r = 0; r < n; r++) {
            for (int c = r; c < n; c++) {
                int[][] b = new int[n][n];
                b[r][c] = 1;
                b[c][r] = 1;
                insert(basis, flat(part(part, e, b)));
            }
        }
        return basis.size();
    }

    private int[] flat(int[][] a) {
        int n = now.size;
        int[] cells = new int[n * n];
        for (int k = 0; k < n * n; k++) {
            cells[k] = a[k / n][k % n];
        }
        return cells;
    }

    private void insert(List<int[]> basis, int[] cells) {
        for (int[] known : basis) {
            int lead = lead(known);
            int times = mod((long) cells[lead] * inverse(known[lead]));
            for (int k = 0; k < cells.length; k++) {
                cells[k] = mod(cells[k] - (long) times * known[k]);
            }
        }
        if (lead(cells) >= 0) {
            basis.add(cells);
        }
    }

    private static int lead(int[] cells) {
        for (int k = 0; k < cells.length; k++) {
            if (cells[k] != 0) {
                return k;
            }
        }
        return -1;
    }

    /** The exponent again, by counting different parts of all elements; for few elements. */
    int countedExponent(int part, int[][] e) {
        Set<String> parts = new HashSet<>();
        for (int[][] b : all()) {
            parts.add(java.util.Arrays.deepToString(part(part, e, b)));
        }
        int exponent = 0;
        for (int many = 1; many < parts.size(); many *= now.p) {
            exponent++;
        }
        return exponent;
    }

    List<int[][]> all() {
        int n = now.size;
        List<int[][]> all = new ArrayList<>();
        all.add(new int[n][n]);
        for (int r = 0; r < n; r++) {
            for (int c = r; c < n; c++) {
                List<int[][]> more = new ArrayList<>();
                for (int[][] a : all) {
                    for (int number = 0; number < now.p; number++) {
                        int[][] b = cloned(a);
                        b[r][c] = number;
                        b[c][r] = number;
                        more.add(b);
                    }
                }
                all = more;
            }
        }
        return all;
    }

    // ---- texts: sums are read and reckoned in one go

    private final class Text {
        private final boolean reckon;
        private int at = 0;
        int register = NONE;
        int[][] left;
        int[][] right;

        Text(boolean reckon) {
            this.reckon = reckon;
        }

        private char sign() {
            return at < pad.length() ? pad.charAt(at) : 0;
        }

        private void expect(char sign) {
            if (sign() != sign) {
                throw new Fault(at);
            }
            at++;
        }

        void whole() {
            if (isRegister(sign()) && at + 1 < pad.length() && pad.charAt(at + 1) == ':') {
                register = sign() - 'A';
                at = 2;
            } else {
                left = sum();
                expect('=');
            }
            right = sum();
            if (at < pad.length()) {
                throw new Fault(at);
            }
        }

        private boolean isRegister(char sign) {
            return "ABCDEFGH".indexOf(sign) >= 0;
        }

        private int[][] sum() {
            int[][] sum = term();
            while (sign() == '+' || sign() == '-') {
                int times = sign() == '+' ? 1 : -1;
                at++;
                sum = combined(sum, times, term());
            }
            return sum;
        }

        private int[][] term() {
            int times = 1;
            if (sign() >= '0' && sign() <= '9') {
                times = sign() - '0';
                at++;
                expect('*');
            }
            return combined(new int[now.size][now.size], times, factor());
        }

        private int[][] factor() {
            char kind = sign();
            int place = at;
            if (at >= pad.length() || "ABCDEFGHi(putv".indexOf(kind) < 0) {
                throw new Fault(at);
            }
            at++;
            if (isRegister(kind)) {
                return now.registers[kind - 'A'];
            }
            if (kind == 'i') {
                return unit();
            }
            if (kind != '(') {
                expect('(');
            }
            int[][] a = sum();
            int[][] b = null;
            int[][] c = null;
            if (kind == 'p' || kind == 'u' || kind == 't') {
                expect(',');
                b = sum();
            }
            if (kind == 't') {
                expect(',');
                c = sum();
            }
            expect(')');
            if (!reckon) {
                return a;
            }
            switch (kind) {
                case 'p':
                    return product(a, b);
                case 'u':
                    return operator(a, b);
                case 't':
                    return triple(a, b, c);
                case 'v':
                    if (inverse(a) == null) {
                        throw new Stop(place);
                    }
                    return inverse(a);
                default:
                    return a;
            }
        }
    }

    // ---- the face

    private boolean noRegister(int register) {
        return register < 0 || register > 7;
    }

    private boolean noPlace(int row, int column) {
        return row < 0 || row >= now.size || column < 0 || column >= now.size;
    }

    private void change() {
        history.addLast(now.copy());
        if (history.size() > 6) {
            history.removeFirst();
        }
    }

    int begin(int size, int modulus) {
        if (size < 2 || size > 3 || !List.of(3, 5, 7, 11).contains(modulus)) {
            return BAD_VALUE;
        }
        change();
        int before = now.size;
        now.size = size;
        now.p = modulus;
        now.base = identity(size);
        now.registers = zeros(size);
        return before;
    }

    int set(int register, int row, int column, int number) {
        if (noRegister(register) || noPlace(row, column)) {
            return NO_SUCH;
        }
        if (number < 0 || number > now.p - 1) {
            return BAD_VALUE;
        }
        change();
        int before = now.registers[register][row][column];
        now.registers[register][row][column] = number;
        now.registers[register][column][row] = number;
        return before;
    }

    int base(int register) {
        if (register != NONE && noRegister(register)) {
            return NO_SUCH;
        }
        int[][] u = register == NONE ? identity(now.size) : cloned(now.registers[register]);
        if (determinant(u) == 0) {
            return NOT_POSSIBLE;
        }
        change();
        now.base = u;
        return (int) determinant(u);
    }

    int split(int by, int register, int to) {
        if (noRegister(by) || noRegister(register) || to < 0 || to > 5) {
            return NO_SUCH;
        }
        int[][] e = now.registers[by];
        if (!ownSquare(e)) {
            return NOT_POSSIBLE;
        }
        int[][] b = now.registers[register];
        change();
        int many = 0;
        int[][][] found = {part(2, e, b), part(1, e, b), part(0, e, b)};
        for (int k = 0; k < 3; k++) {
            now.registers[to + k] = found[k];
            many += isZero(found[k]) ? 0 : 1;
        }
        return many;
    }

    int run() {
        if (fault() != NONE) {
            return BAD_TEXT;
        }
        Text text = new Text(true);
        try {
            text.whole();
        } catch (Stop stop) {
            return NOT_POSSIBLE;
        }
        if (text.register == NONE) {
            return NOT_POSSIBLE;
        }
        change();
        now.registers[text.register] = cloned(text.right);
        pad = "";
        return text.register;
    }

    private int[][] element(int register) {
        return register == 8 ? now.base : register == 9 ? unit() : now.registers[register];
    }

    int entry(int register, int row, int column) {
        if (register < 0 || register > 9 || noPlace(row, column)) {
            return NO_SUCH;
        }
        return element(register)[row][column];
    }

    int of(int register, int what) {
        if (register < 0 || register > 9) {
            return NO_SUCH;
        }
        int[][] a = element(register);
        switch (what) {
            case 0:
                int trace = 0;
                for (int k = 0; k < now.size; k++) {
                    trace += a[k][k];
                }
                return mod(trace);
            case 1:
                return (int) determinant(a);
            case 2:
                return rank(a);
            case 3:
                return ownSquare(a) ? 1 : 0;
            case 4:
                return inverse(a) != null ? 1 : 0;
            case 5:
                return order(a);
            case 6:
                return degree(a);
            case 7:
                return zeroPower(a);
            default:
                return BAD_VALUE;
        }
    }

    int count(int what) {
        switch (what) {
            case 0:
                return now.size;
            case 1:
                return now.p;
            case 2:
            case 3:
                int set = 0;
                for (int k = 0; k < 8; k++) {
                    int[][] a = now.registers[k];
                    if (what == 2 ? !isZero(a) : ownSquare(a)) {
                        set += 1 << k;
                    }
                }
                return set;
            case 4:
                return pad.length();
            case 5:
                return history.size();
            default:
                return BAD_VALUE;
        }
    }

    int areSame(int register, int other) {
        if (noRegister(register) || noRegister(other)) {
            return NO_SUCH;
        }
        return same(now.registers[register], now.registers[other]) ? 1 : 0;
    }

    int power(int register, int power, int row, int column) {
        if (noRegister(register) || noPlace(row, column)) {
            return NO_SUCH;
        }
        if (power < 0 || power > 2000) {
            return BAD_VALUE;
        }
        return power(now.registers[register], power)[row][column];
    }

    int rule(int a, int b, int c, int what) {
        if (noRegister(a) || noRegister(b) || noRegister(c)) {
            return NO_SUCH;
        }
        if (what < 0 || what > 1) {
            return BAD_VALUE;
        }
        int[][] x = now.registers[a];
        int[][] y = now.registers[b];
        int[][] z = now.registers[c];
        int[][] one = operator(operator(x, y), z);
        if (what == 0) {
            return same(one, operator(x, operator(y, operator(x, z)))) ? 1 : 0;
        }
        int trace = 0;
        for (int k = 0; k < now.size; k++) {
            trace += one[k][k];
        }
        return mod(trace);
    }

    int partSize(int register, int part) {
        if (noRegister(register)) {
            return NO_SUCH;
        }
        if (part < 0 || part > 2) {
            return BAD_VALUE;
        }
        int[][] e = now.registers[register];
        return ownSquare(e) ? exponent(part, e) : NOT_POSSIBLE;
    }

    int howMany(int kind) {
        if (kind < 0 || kind > 3) {
            return BAD_VALUE;
        }
        if (now.size == 3) {
            return NOT_POSSIBLE;
        }
        int many = 0;
        for (int[][] a : all()) {
            boolean counts = kind == 0 ? ownSquare(a)
                    : kind == 1 ? inverse(a) != null
                    : kind == 2 ? zeroPower(a) != NONE
                    : same(product(a, a), unit());
            many += counts ? 1 : 0;
        }
        return many;
    }

    int holds() {
        if (fault() != NONE) {
            return BAD_TEXT;
        }
        Text text = new Text(true);
        try {
            text.whole();
        } catch (Stop stop) {
            return NOT_POSSIBLE;
        }
        if (text.register != NONE) {
            return NOT_POSSIBLE;
        }
        return same(text.left, text.right) ? 1 : 0;
    }

    int stops() {
        if (fault() != NONE) {
            return BAD_TEXT;
        }
        try {
            new Text(true).whole();
        } catch (Stop stop) {
            return stop.place;
        }
        return NONE;
    }

    int put(long characters) {
        StringBuilder more = new StringBuilder();
        boolean ended = false;
        for (int k = 0; k < 8; k++) {
            int code = (int) (characters >>> 8 * k & 255);
            if (code == 0) {
                ended = true;
            } else if (ended || code < 33 || code > 126) {
                return BAD_VALUE;
            } else {
                more.insert(0, (char) code);
            }
        }
        if (more.length() == 0) {
            return BAD_VALUE;
        }
        if (pad.length() + more.length() > 60) {
            return TOO_MANY;
        }
        pad += more;
        return pad.length();
    }

    int wipe() {
        int before = pad.length();
        pad = "";
        return before;
    }

    int fault() {
        try {
            new Text(false).whole();
        } catch (Fault fault) {
            return fault.place;
        }
        return NONE;
    }

    int undo() {
        if (history.isEmpty()) {
            return NOT_POSSIBLE;
        }
        now = history.removeLast();
        return history.size();
    }

    int save(int slot) {
        if (slot < 0 || slot > 1) {
            return BAD_VALUE;
        }
        slots[slot] = now.copy();
        return now.size;
    }

    int restore(int slot) {
        if (slot < 0 || slot > 1) {
            return BAD_VALUE;
        }
        if (slots[slot] == null) {
            return NOT_POSSIBLE;
        }
        change();
        now = slots[slot].copy();
        return now.size;
    }
}
