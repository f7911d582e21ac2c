/** The boundary sentences of the formulas and of the promises 15 to 19: holds, stops, put, wipe, fault. */
public final class EdgesOfPadTest extends Edges {
    public static void main(String[] arguments) {
        runAll(EdgesOfPadTest.class);
    }

    private void fault(String text, int want) {
        due("fault() of " + text, typed(new PeirceDesk(), text).fault(), want);
    }

    private void faultless(String... texts) {
        for (String text : texts) {
            fault(text, NONE);
        }
    }

    /** Each text has its first fault at its last character, whatever follows there. */
    private void faultAtTheEnd(String... texts) {
        for (String text : texts) {
            fault(text, text.length() - 1);
            fault(text + "A", text.length() - 1);
            fault(text + "=", text.length() - 1);
        }
    }

    /** Each text has no fault but that it ends too early. */
    private void tooEarly(String... texts) {
        for (String text : texts) {
            fault(text, text.length());
        }
    }

    private void holds(PeirceDesk desk, String text, int want) {
        due("holds() of " + text, typed(desk, text).holds(), want);
    }

    private void stops(PeirceDesk desk, String text, int want) {
        due("stops() of " + text, typed(desk, text).stops(), want);
    }

    private void result(String text, int... upper) {
        PeirceDesk desk = filled();
        due("run() of " + text, run(desk, text), text.charAt(0) - 'A');
        element(text, desk, text.charAt(0) - 'A', upper);
    }

    // ---- formulas: what is read

    @Sentence("Formulas: text = register \":\" sum: the colon stands just behind a first register")
    void colon() {
        faultless("A:A", "H:H", "A:i", "C:(A)", "D:2*A");
        faultAtTheEnd(":", "i:", "2:", "(:", "(A:", "A::", "A:B:", "A+B:", "A=B:", "A:(B:", "p(A:", "2*A:", "v:", "(A):",
                "A=:", "B+:");
    }

    @Sentence("Formulas: text = sum \"=\" sum: one equals sign, outside of the brackets, between two sums")
    void equalsSign() {
        faultless("A=A", "i=i", "(A)=(B)", "A+B=C-D", "2*A=3*B", "v(A)=p(A,B)");
        faultAtTheEnd("=", "A==", "A=B=", "A:=", "A:B=", "(A=", "p(A,B=", "A+=", "A-=", "2=", "2*=", "v(A=", "A=(B=", "p=");
    }

    @Sentence("Formulas: sum = term { ( \"+\" | \"-\" ) term }: a sign stands between two terms")
    void signs() {
        faultless("A:A+B", "A:A-B", "A+B-C=D-E+F", "A:(A+B)-(C-D)", "A:A+2*B");
        faultAtTheEnd("+", "-", "A++", "A--", "A+-", "A:+", "A:-", "A=+", "A=-", "(+", "(-", "p(A,+", "p(-", "A+)", "(A-)",
                "A:2+", "A:2*-", "v(+", "t(A,B,-");
    }

    @Sentence("Formulas: term = [ digit \"*\" ] factor: one digit, one asterisk")
    void digitAndAsterisk() {
        faultless("A:2*A", "2*A=A", "A:2*(3*A)", "A:2*p(3*A,4*B)", "A:2*i", "A:2*v(A)");
        faultAtTheEnd("*", "A:*", "A*", "A:A*", "A:22", "A:2A", "A:2i", "A:2(", "A:2p", "A:2+", "A:2)", "A:2=", "A:2**",
                "A:2*3", "A:2*+", "A:2*)", "A:2*,", "A:2*=", "A:2:", "2,", "A:A2", "A:i2", "A:(A)2", "A:(A)*");
    }

    @Sentence("Formulas: a digit (0 to 9)")
    void digits() {
        for (int digit = 0; digit < 10; digit++) {
            faultless("A:" + digit + "*A", digit + "*i=A");
        }
        faultAtTheEnd("A:/", "A:;", "/", ";", "A:a", "A:x", "(/", "A+;");
        result("E:0*A", 0, 0, 0);
        result("E:1*A", 1, 2, 3);
        result("E:9*A", 4, 3, 2);
    }

    @Sentence("Formulas: a register is a letter from A to H")
    void letters() {
        for (char letter = 'A'; letter <= 'H'; letter++) {
            faultless("A:" + letter, letter + ":A", letter + "=" + letter, "B:v(" + letter + ")");
        }
        faultAtTheEnd("@", "I", "a", "h", "Z", "A:@", "A:I", "A:a", "A:h", "A=I", "A+@", "(I", "p(A,I", "2*@", "2*I");
    }

    @Sentence("Formulas: factor = register | \"i\": nothing stands between two factors")
    void factors() {
        faultless("A:i", "i=A", "A:i-i");
        faultAtTheEnd("AB", "Ai", "A:AB", "A:ii", "A:iA", "A:A(", "A:Ap", "A:(A)(", "A:(A)B", "A:v(A)i", "A:p(A,B)v", "i(");
        faultAtTheEnd("j", "A:I", "A:1i", "!", "A:!", "A:A!", "A:~", "A:A~", "(~");
    }

    @Sentence("Formulas: factor = \"(\" sum \")\": one sum, and each bracket is closed just once")
    void brackets() {
        faultless("A:(A)", "A:((A))", "(A)=A", "A=((B))", "A:(A)+(B)", "A:(A+(B-(C)))");
        faultAtTheEnd(")", "()", "A:()", "A:(A))", "(A))", "A)", "A:A)", "A=B)", "A:(A,", "A:((A),", "A,", "A:A,", "A=A,",
                "A:(,", "(A)=B)", "A:(A+)");
        tooEarly("(", "(A", "((A)", "A:(A+B", "A=(B");
    }

    @Sentence("Formulas: \"p(\" sum \",\" sum \")\": two sums, not one and not three")
    void twoInProducts() {
        faultless("A:p(A,B)", "p(A,B)=p(B,A)", "A:p(A+B,2*C)", "A:p((A),(B))", "A:p(p(A,B),p(C,D))");
        faultAtTheEnd("A:p(A)", "A:p(A,B,", "A:p()", "A:p(,", "A:p(A,)", "A:p(A,,", "A:pA", "A:p)", "A:p,", "A:pp", "p=", "p:");
        tooEarly("A:p", "A:p(", "A:p(A", "A:p(A,", "A:p(A,B");
    }

    @Sentence("Formulas: \"u(\" sum \",\" sum \")\": two sums, not one and not three")
    void twoInOperators() {
        faultless("A:u(A,B)", "u(A,B)=u(B,A)", "A:u(A+B,2*C)", "A:u(u(A,B),u(C,D))");
        faultAtTheEnd("A:u(A)", "A:u(A,B,", "A:u()", "A:u(,", "A:u(A,)", "A:uA", "A:u)", "u=", "u:");
        tooEarly("A:u", "A:u(", "A:u(A", "A:u(A,", "A:u(A,B");
    }

    @Sentence("Formulas: \"t(\" sum \",\" sum \",\" sum \")\": three sums, not two and not four")
    void threeInTriples() {
        faultless("A:t(A,B,C)", "t(A,B,C)=t(C,B,A)", "A:t(A+B,2*C,(D))", "A:t(t(A,B,C),p(A,B),v(C))");
        faultAtTheEnd("A:t(A)", "A:t(A,B)", "A:t(A,B,C,", "A:t()", "A:t(,", "A:t(A,,", "A:t(A,B,)", "A:tA", "A:t)", "t=", "t:");
        tooEarly("A:t", "A:t(", "A:t(A", "A:t(A,", "A:t(A,B", "A:t(A,B,", "A:t(A,B,C");
    }

    @Sentence("Formulas: \"v(\" sum \")\": one sum, not none and not two")
    void oneInInverses() {
        faultless("A:v(A)", "v(A)=A", "A:v(A+2*B)", "A:v(v(A))", "A:v((A))");
        faultAtTheEnd("A:v()", "A:v(A,", "A:v(,", "A:vA", "A:v)", "A:v+", "A:vv", "v=", "v:");
        tooEarly("v", "A:v", "A:v(", "A:v(A");
    }

    @Sentence("Formulas: each bracket has the commas of its own kind, also inside and behind another one")
    void commasOfEachBracket() {
        faultless("A:t(p(A,B),C,D)", "A:t(A,p(B,C),D)", "A:t(A,B,u(C,D))", "A:p((A),B)", "A:p(A,v(B))",
                "A:t((A),(B),(C))", "A:p(t(A,B,C),A)");
        faultAtTheEnd("A:t(p(A,B,", "A:p((A,", "A:p((A))", "A:t(A,p(B)", "A:t(p(A,B),C)", "A:p(A,v(B,", "A:p(v(A))",
                "A:p(A,p(B,C),", "A:p(A,B)+(C,", "A:(p(A,B),", "A:v(p(A,B),", "A:v(p(A)", "A:(t(A,B)", "A:v((A,");
    }

    @Sentence("Formulas: the fault is the index of the first character that cannot stand at its place")
    void firstFault() {
        fault("+A+", 0);
        fault("A:+A", 2);
        fault("A:B)C)", 3);
        fault("A:BB:B", 3);
        fault("A=B=C=", 3);
        fault("A:p(A)+)", 5);
        fault("A:v(A,A,A)", 5);
        fault("))))", 0);
        fault("A:" + "i-".repeat(28) + "i)", 59);
        fault("A:" + "i-".repeat(28) + "))", 58);
    }

    @Sentence("Formulas: if the text ends too early, the fault is its length")
    void endsTooEarly() {
        tooEarly("A", "A:", "A=", "A+B", "A-", "A:B+", "A:B-", "A:2", "A:2*", "A:B+2", "A=B+", "i", "2", "2*", "2*A", "(A)",
                "p(A,B)", "v(A)");
        tooEarly("A:" + "B+".repeat(29), "(".repeat(60), "A+".repeat(29) + "A", "A:" + "t(".repeat(29));
    }

    @Sentence("Formulas: the fault of the empty text is its length, 0")
    void emptyText() {
        due("fault()", new PeirceDesk().fault(), 0);
        PeirceDesk desk = new PeirceDesk();
        Checks.type(desk, "A=A");
        desk.wipe();
        due("fault() of a wiped pad", desk.fault(), 0);
        run(desk, "A:i");
        due("fault() behind run", desk.fault(), 0);
    }

    // ---- formulas: how they are carried out

    @Sentence("Formulas: a text is carried out from left to right")
    void leftToRight() {
        result("E:A-B-C", 4, 0, 4);
        result("E:A-B+C", 1, 4, 2);
        result("E:A-B+C-D", 1, 3, 2);
        result("E:D-A+A", 0, 1, 0);
    }

    @Sentence("Formulas: what is in brackets is carried out ahead of what is done with it")
    void bracketsAhead() {
        result("E:A-(B-C)", 1, 4, 2);
        result("E:A-(B+C)", 4, 0, 4);
        result("E:2*(A+D)", 2, 1, 1);
        result("E:A-((B-C)-(A-D))", 2, 0, 0);
        result("E:p(A+D,B-D)", 3, 2, 2);
        result("E:v(A-B)", 3, 3, 0);
    }

    @Sentence("Formulas: a digit with \"*\" is so many times what follows, one factor")
    void digitTimesOneFactor() {
        result("E:2*A+D", 2, 0, 1);
        result("E:D+2*A", 2, 0, 1);
        result("E:D-2*A+B", 4, 2, 4);
        result("E:2*A-3*A", 4, 3, 2);
        result("E:2*A+A", 3, 1, 4);
        result("E:3*u(2*B,2*A)", 4, 0, 0);
    }

    @Sentence("Formulas: a sum of terms of each sign, behind a bracket and behind a comma")
    void signsStartAnew() {
        result("E:A-(B)+D", 0, 3, 3);
        result("E:A-p(B,B)+D", 0, 3, 3);
        result("E:u(A-B,D)", 0, 4, 2);
        result("E:u(A-D,B)", 1, 1, 1);
        result("E:t(B-D,A,B)", 4, 2, 0);
    }

    @Sentence("Formulas: brackets in brackets, as deep as 60 characters go")
    void deepest() {
        result("E:" + "(".repeat(25) + "A-(B-D)" + ")".repeat(25), 0, 3, 3);
        result("E:" + "(".repeat(28) + "A" + ")".repeat(28), 1, 2, 3);
        result("E:" + "v(".repeat(19) + "A" + ")".repeat(19), 2, 2, 4);
        result("E:" + "u(i,".repeat(11) + "A" + ")".repeat(11), 1, 2, 3);
        holds(filled(), "(".repeat(25) + "A-(B-D)" + ")".repeat(25) + "=i", 0);
        holds(filled(), "A=" + "(".repeat(25) + "A-(B-B)" + ")".repeat(25), 1);
        stops(filled(), "A:" + "(".repeat(27) + "v(C)"+ ")".repeat(27), 29);
    }

    @Sentence("Formulas: \"i\" is the unit")
    void unit() {
        PeirceDesk desk = filled();
        desk.base(0);
        run(desk, "E:i");
        element("i", desk, 4, 2, 2, 4);
        holds(desk, "p(D,i)=D", 1);
        holds(desk, "u(i,D)=D", 1);
    }

    @Sentence("Formulas: \"u\" is the operator of the first one, used on the second one")
    void operatorOfTheFirst() {
        result("E:u(A,B)", 1, 2, 4);
        result("E:u(B,A)", 1, 0, 0);
    }

    @Sentence("Formulas: \"t\" is the triple, the second one in the middle")
    void triple() {
        result("E:t(A,B,D)", 0, 3, 2);
        result("E:t(D,B,A)", 0, 3, 2);
        result("E:t(B,A,D)", 2, 3, 0);
        result("E:t(A,D,B)", 2, 4, 0);
    }

    // ---- promise 15

    @Sentence("Promise 15: holds returns 1 or 0")
    void holdsOrNot() {
        PeirceDesk desk = filled();
        holds(desk, "A=A", 1);
        holds(desk, "A=B", 0);
        holds(desk, "p(A,B)=p(B,A)", 1);
        holds(desk, "u(A,B)=u(B,A)", 0);
        holds(desk, "5*A=0*B", 1);
        holds(desk, "A-A=E", 1);
        holds(desk, "A=v(v(A))", 1);
        holds(desk, "A-B=A-B-D", 0);
    }

    @Sentence("Promise 15: holds, only if every number of both sides is the same")
    void holdsForEveryNumber() {
        for (int size : SIZES) {
            for (int row = 0; row < size; row++) {
                for (int column = 0; column <= row; column++) {
                    PeirceDesk desk = desk(size, 5);
                    desk.set(3, row, column, 1);
                    holds(desk, "D=E", 0);
                    holds(desk, "E=D", 0);
                    desk.set(4, row, column, 1);
                    holds(desk, "D=E", 1);
                }
            }
        }
    }

    @Sentence("Promise 15: holds, BAD_TEXT if the pad has a fault")
    void holdsOfFaults() {
        for (String text : new String[] {"", "A", "A=", "A+B", "A=B+", "A=B)", "A==B", "=A", "A=B=C", "(A=B)", "A=2", "A=i:"}) {
            holds(filled(), text, BAD_TEXT);
        }
    }

    @Sentence("Promise 15: holds, NOT_POSSIBLE if it is a formula")
    void holdsOfAFormula() {
        PeirceDesk desk = filled();
        holds(desk, "A:A", NOT_POSSIBLE);
        holds(desk, "H:A+B", NOT_POSSIBLE);
        holds(desk, "A:v(A)", NOT_POSSIBLE);
        holds(desk, "A:v(C)", NOT_POSSIBLE);
    }

    @Sentence("Promise 15: holds, NOT_POSSIBLE if it stops, on either side")
    void holdsThatStops() {
        PeirceDesk desk = filled();
        holds(desk, "v(C)=A", NOT_POSSIBLE);
        holds(desk, "A=v(C)", NOT_POSSIBLE);
        holds(desk, "v(C)=v(C)", NOT_POSSIBLE);
        holds(desk, "A=A+0*v(B)", NOT_POSSIBLE);
        holds(desk, "v(A)=v(A)", 1);
    }

    // ---- promise 16

    @Sentence("Promise 16: stops returns the index of the \"v\" at which it stops: in a formula, the first place and the last")
    void stopsInFormulas() {
        PeirceDesk desk = filled();
        stops(desk, "A:v(C)", 2);
        stops(desk, "H:A+v(B)", 4);
        stops(desk, "A:2*v(E)", 4);
        stops(desk, "A:" + "i-".repeat(27) + "v(C)", 56);
    }

    @Sentence("Promise 16: stops returns the index of the \"v\" at which it stops: in an equation, on either side")
    void stopsInEquations() {
        PeirceDesk desk = filled();
        stops(desk, "v(C)=A", 0);
        stops(desk, "A=v(C)", 2);
        stops(desk, "v(A)=v(C)", 5);
        stops(desk, "v(C)=v(B)", 0);
        stops(desk, "i=" + "i-".repeat(27) + "v(C)", 56);
    }

    @Sentence("Promise 16: stops, at the first \"v\" from left to right that has no inverse")
    void stopsAtTheFirst() {
        PeirceDesk desk = filled();
        stops(desk, "A:v(B)+v(C)", 2);
        stops(desk, "A:v(A)+v(C)", 7);
        stops(desk, "A:p(v(B),v(C))", 4);
        stops(desk, "A:p(v(A),v(C))", 9);
        stops(desk, "A:t(v(A),v(D),v(B))", 14);
        stops(desk, "A:u(A,v(B))-v(C)", 6);
    }

    @Sentence("Promise 16: stops, what is in brackets ahead: at the inner \"v\" ahead of the outer one")
    void stopsInside() {
        PeirceDesk desk = filled();
        stops(desk, "A:v(v(B))", 4);
        stops(desk, "A:v(v(v(B)))", 6);
        stops(desk, "A:v(v(A)-v(A))", 2);
        stops(desk, "A:v(B+v(C))", 6);
        stops(desk, "A:v((B)-p(v(C),A))", 10);
    }

    @Sentence("Promise 16: stops also where it is 0 times what has no inverse")
    void stopsInNothing() {
        PeirceDesk desk = filled();
        stops(desk, "A:0*v(C)", 4);
        stops(desk, "A:0*(A+v(C))", 7);
        stops(desk, "A:p(E,v(B))", 6);
        stops(desk, "A:v(0*A)", 2);
        stops(desk, "A:v(5*A)", 2);
    }

    @Sentence("Promise 16: stops, BAD_TEXT if the pad has a fault")
    void stopsOfFaults() {
        for (String text : new String[] {"", "A", "A:", "v(C)", "A:v(C", "A:v(C)+", "v(C)=", "A:v(C))", "A:v()", "v", "A:A="}) {
            stops(filled(), text, BAD_TEXT);
        }
    }

    @Sentence("Promise 16: stops, NONE if it does not stop")
    void stopsNowhere() {
        PeirceDesk desk = filled();
        for (String text : new String[] {"A:A", "A=B", "A=A", "A:v(A)", "v(A)=v(D)", "A:v(v(A))", "A:v(i)", "A:v(2*A)", "A:v(B+D)"}) {
            stops(desk, text, NONE);
        }
    }

    // ---- promise 17

    @Sentence("Formulas, promise 17: the pad has at most 60 characters: TOO_MANY if it would be longer, one at a time")
    void putOneAtATime() {
        PeirceDesk desk = new PeirceDesk();
        for (int length = 1; length <= 60; length++) {
            due("put('A')", desk.put('A'), length);
        }
        due("put('A') at 60", desk.put('A'), TOO_MANY);
        due("put of eight at 60", desk.put(Checks.packed("AAAAAAAA")), TOO_MANY);
        due("count(4)", desk.count(4), 60);
    }

    @Sentence("Promise 17: TOO_MANY if the pad would be longer than 60: up to just 60 it is taken, and nothing of more")
    void putAcrossTheEnd() {
        for (int many = 1; many <= 8; many++) {
            PeirceDesk desk = new PeirceDesk();
            Checks.type(desk, "A".repeat(61 - many));
            due("put of " + many + " at " + (61 - many), desk.put(Checks.packed("B".repeat(many))), TOO_MANY);
            due("count(4)", desk.count(4), 61 - many);
            PeirceDesk other = new PeirceDesk();
            Checks.type(other, "A".repeat(60 - many));
            due("put of " + many + " at " + (60 - many), other.put(Checks.packed("B".repeat(many))), 60);
            due("put of 1 at 60", other.put('B'), TOO_MANY);
        }
    }

    @Sentence("Promise 17: put, 1 to 8 characters; it returns the length of the pad then")
    void putEachLength() {
        for (int many = 1; many <= 8; many++) {
            PeirceDesk desk = new PeirceDesk();
            due("put of " + many, desk.put(Checks.packed("ABCDEFGH".substring(0, many))), many);
            due("put of " + many + " more", desk.put(Checks.packed("HGFEDCBA".substring(0, many))), 2 * many);
            due("count(4)", desk.count(4), 2 * many);
        }
    }

    @Sentence("Promise 17: put, the lowest 8 bits are the last character, the next 8 bits the one before, and so on")
    void putOrder() {
        PeirceDesk desk = filled();
        due("put of H:2*A-B+", desk.put(Checks.packed("H:2*A-B+")), 8);
        due("put of D", desk.put('D'), 9);
        due("run()", desk.run(), 7);
        element("H:2*A-B+D", desk, 7, 1, 0, 1);
        due("put of =A", desk.put('A' << 16 | '=' << 8 | 'B'), 3);
        due("fault()", desk.fault(), NONE);
        due("holds()", desk.holds(), 0);
    }

    @Sentence("Promise 17: put, BAD_VALUE if there is no character")
    void putNothing() {
        PeirceDesk desk = new PeirceDesk();
        due("put(0)", desk.put(0), BAD_VALUE);
        desk.put('A');
        due("put(0)", desk.put(0), BAD_VALUE);
    }

    @Sentence("Promise 17: put, BAD_VALUE if a code is not 33 to 126: 32 and 33")
    void putLeastCode() {
        for (int place = 0; place < 8; place++) {
            PeirceDesk desk = new PeirceDesk();
            due("33 at the place " + place, desk.put(coded(place, 33)), 8);
            due("32 at the place " + place, desk.put(coded(place, 32)), BAD_VALUE);
            due("31 at the place " + place, desk.put(coded(place, 31)), BAD_VALUE);
            due("1 at the place " + place, desk.put(coded(place, 1)), BAD_VALUE);
        }
        PeirceDesk desk = new PeirceDesk();
        due("put(33)", desk.put(33), 1);
        due("put(32)", desk.put(32), BAD_VALUE);
        due("put(1)", desk.put(1), BAD_VALUE);
        due("put of eight times 33", desk.put(0x2121212121212121L), 9);
    }

    @Sentence("Promise 17: put, BAD_VALUE if a code is not 33 to 126: 126 and 127")
    void putGreatestCode() {
        for (int place = 0; place < 8; place++) {
            PeirceDesk desk = new PeirceDesk();
            due("126 at the place " + place, desk.put(coded(place, 126)), 8);
            due("127 at the place " + place, desk.put(coded(place, 127)), BAD_VALUE);
            due("128 at the place " + place, desk.put(coded(place, 128)), BAD_VALUE);
            due("193 at the place " + place, desk.put(coded(place, 193)), BAD_VALUE);
            due("255 at the place " + place, desk.put(coded(place, 255)), BAD_VALUE);
        }
        PeirceDesk desk = new PeirceDesk();
        due("put(126)", desk.put(126), 1);
        due("put(127)", desk.put(127), BAD_VALUE);
        due("put(128)", desk.put(128), BAD_VALUE);
        due("put(255)", desk.put(255), BAD_VALUE);
        due("put of eight times 126", desk.put(0x7e7e7e7e7e7e7e7eL), 9);
        due("put(-1)", desk.put(-1), BAD_VALUE);
        due("put of the least number", desk.put(Long.MIN_VALUE), BAD_VALUE);
        due("put of the greatest number", desk.put(Long.MAX_VALUE), BAD_VALUE);
    }

    /** Eight characters, one of them, counted from the lowest bits, with a code. */
    private static long coded(int place, long code) {
        return 0x4141414141414141L & ~(255L << 8 * place) | code << 8 * place;
    }

    @Sentence("Promise 17: put, BAD_VALUE if a bit above 8 bits that are 0 is not 0")
    void putAboveZeros() {
        PeirceDesk desk = new PeirceDesk();
        for (int place = 0; place < 8; place++) {
            due("zeros at the place " + place, desk.put(coded(place, 0)), place == 7 ? 7 : BAD_VALUE);
        }
        for (int bit = 16; bit < 64; bit++) {
            due("the bit " + bit, desk.put('A' | 1L << bit), BAD_VALUE);
        }
        for (int bit = 8; bit < 64; bit++) {
            due("the bit " + bit + " above none", desk.put(1L << bit), BAD_VALUE);
        }
        due("count(4)", desk.count(4), 7);
    }

    @Sentence("Promise 17: put takes any characters of 33 to 126, those that cannot stand too, and is no change")
    void putAnything() {
        PeirceDesk desk = new PeirceDesk();
        due("put of ~!", desk.put('~' << 8 | '!'), 2);
        due("fault()", desk.fault(), 0);
        due("count(5)", desk.count(5), 0);
        due("undo()", desk.undo(), NOT_POSSIBLE);
        due("count(4)", desk.count(4), 2);
    }

    // ---- promise 18

    @Sentence("Promise 18: wipe returns the length that the pad had: 0, 1 and 60")
    void wipeReturns() {
        PeirceDesk desk = new PeirceDesk();
        due("wipe() of nothing", desk.wipe(), 0);
        desk.put('A');
        due("wipe() of one", desk.wipe(), 1);
        Checks.type(desk, "A".repeat(60));
        due("wipe() of 60", desk.wipe(), 60);
        due("wipe() again", desk.wipe(), 0);
    }

    @Sentence("Promise 18: wipe empties the pad, and is no change")
    void wipeEmpties() {
        PeirceDesk desk = new PeirceDesk();
        Checks.type(desk, "A".repeat(60));
        desk.wipe();
        due("count(4)", desk.count(4), 0);
        due("fault()", desk.fault(), 0);
        due("put of eight", desk.put(Checks.packed("A=A+E-E+")), 8);
        due("put of one", desk.put('B'), 9);
        due("holds()", desk.holds(), 1);
        due("count(5)", desk.count(5), 0);
    }

    // ---- promise 19

    @Sentence("Promise 19: fault, NONE if there is none, for a formula and for an equation")
    void faultNone() {
        faultless("A:A", "A=A", "H:t(A,B,v(C))", "v(C)=v(C)", "A:" + "i+".repeat(28) + "i");
        faultless("A=" + "i+".repeat(28) + "i", "A:" + "(".repeat(28) + "B" + ")".repeat(28), "A:" + "v(".repeat(19) + "B" + ")".repeat(19));
    }

    @Sentence("Promise 19: fault of a text that fills the pad (60 characters)")
    void faultOfTheLongest() {
        String most = "A:9*B" + "+A-A".repeat(12);
        faultless(most + "+v(i)+D", most.replace(':', '=') + "+v(i)+D");
        fault(most + "+v(i)+)", 59);
        fault(most + "+v(i)DD", 58);
        fault(most + "+v(i)+2", 60);
        fault(most + "+D+v(ii", 59);
        fault(most + "+D-v(-i", 58);
        fault(most + "+D-v(i-", 60);
    }
}
