/**
 * Every text of up to five characters of a few kinds, alone and behind longer beginnings: its fault,
 * whether it holds and where it stops is what the model of the document tells.
 */
public final class EveryTextTest {
    private static final String SIGNS = "AHi:=+-*2(),pv";
    private static final int LONGEST = 5;
    /* Behind each of them, texts of fewer but other characters are tried. */
    private static final String[] BEGINNINGS = {"A:t(A,", "A:u(A", "B=p((A),", "A:2*(v(", "v(H)=(", "C:t(i,2*A,A-", "A:v(A)", "(A-i)"};
    private static final String OTHER_SIGNS = "BHi:=+-*7(),putv@I/~";
    private static final int LONGEST_BEHIND = 4;
    /* An object is used for at most 512 calls; a text takes at most eight of them. */
    private static final int TEXTS_OF_ONE_DESK = 60;

    private final Checks checks = new Checks("EveryTextTest");
    private final Model model = new Model();
    private PeirceDesk desk;
    private int texts;
    private int faultless;

    private EveryTextTest() {
    }

    public static void main(String[] arguments) {
        EveryTextTest test = new EveryTextTest();
        test.model.set(0, 0, 0, 1);
        test.model.set(0, 0, 1, 2);
        test.model.set(0, 1, 1, 3);
        test.from("", SIGNS, LONGEST);
        for (String beginning : BEGINNINGS) {
            test.from(beginning, OTHER_SIGNS, LONGEST_BEHIND);
        }
        System.out.println(test.texts + " texts, " + test.faultless + " of them without a fault");
        test.checks.due("texts without a fault", test.faultless, 457);
        test.checks.finish();
    }

    private void from(String text, String signs, int more) {
        compare(text);
        for (int k = 0; k < signs.length() && more > 0; k++) {
            from(text + signs.charAt(k), signs, more - 1);
        }
    }

    private void compare(String text) {
        if (texts % TEXTS_OF_ONE_DESK == 0) {
            desk = new PeirceDesk();
            Checks.write(desk, 0, 1, 2, 3);
        }
        texts++;
        desk.wipe();
        Checks.type(desk, text);
        model.pad = text;
        int fault = model.fault();
        due("fault()", text, desk.fault(), fault);
        if (fault == PeirceDesk.NONE) {
            faultless++;
            due("stops()", text, desk.stops(), model.stops());
            due("holds()", text, desk.holds(), model.holds());
        }
    }

    private void due(String call, String text, int got, int want) {
        if (got != want) {
            checks.due(call + " of " + text, got, want);
        }
    }
}
