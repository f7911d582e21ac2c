/** Compares answers with those that are due, and counts the wrong ones. */
final class Checks {
    private final String title;
    private int made = 0;
    private int wrong = 0;

    Checks(String title) {
        this.title = title;
    }

    void due(String call, long got, long want) {
        made++;
        if (got != want) {
            wrong++;
            System.out.println(title + ": " + call + " answered " + got + ", due is " + want);
        }
    }

    boolean anyWrong() {
        return wrong != 0;
    }

    void finish() {
        System.out.println(title + ": " + made + " answers, " + wrong + " wrong");
        if (wrong != 0 || made == 0) {
            System.exit(1);
        }
    }

    /** Puts a text on the pad, eight characters at a time; returns what the last put answered. */
    static int type(PeirceDesk desk, String text) {
        int answer = 0;
        for (int from = 0; from < text.length(); from += 8) {
            answer = desk.put(packed(text.substring(from, Math.min(from + 8, text.length()))));
        }
        return answer;
    }

    static long packed(String characters) {
        long number = 0;
        for (char sign : characters.toCharArray()) {
            number = number << 8 | sign;
        }
        return number;
    }

    /** Writes an element into a register; the numbers stand row by row from the diagonal on. */
    static void write(PeirceDesk desk, int register, int... upper) {
        int size = upper.length == 3 ? 2 : 3;
        int next = 0;
        for (int row = 0; row < size; row++) {
            for (int column = row; column < size; column++) {
                desk.set(register, row, column, upper[next++]);
            }
        }
    }

    /** An element's numbers as one decimal-like number, base 11, row by row from the diagonal on. */
    static long read(PeirceDesk desk, int register) {
        int size = desk.count(0);
        long number = 0;
        for (int row = 0; row < size; row++) {
            for (int column = row; column < size; column++) {
                number = 11 * number + desk.entry(register, row, column);
            }
        }
        return number;
    }

    static long cells(int... upper) {
        long number = 0;
        for (int each : upper) {
            number = 11 * number + each;
        }
        return number;
    }
}
