/** The boundaries of the game text: what the description says of it, and promises 1 to 5. */
public final class BoundaryTextTest {
    /** 200 characters, the last of which ends a statement. */
    private static final String FULL = "g4,3;" + "o0;".repeat(65);

    private BoundaryTextTest() {
    }

    public static void main(String[] args) throws ReflectiveOperationException {
        Boundaries.run(BoundaryTextTest.class);
    }

    private static PushdownGameSolver typed(String text) {
        PushdownGameSolver x = new PushdownGameSolver();
        Check.type(x, text);
        return x;
    }

    private static void wellFormed(String text) {
        Check.due("firstError() of " + text, typed(text).firstError(), -4);
        Check.holds("configure() of " + text, typed(text).configure() >= 0);
    }

    private static void malformed(String text, int at) {
        Check.due("firstError() of " + text, typed(text).firstError(), at);
        Check.due("configure() of " + text, typed(text).configure(), -2);
    }

    /** A statement as the last one and as one before others, behind a game of 2 states and 2 symbols. */
    private static void malformedInGame(String... statements) {
        for (String statement : statements) {
            malformed("g2,2;o1;" + statement, 8);
            malformed("g2,2;o1;" + statement + "t1;", 8);
        }
    }

    @Boundary(promise = 0, sentence = "The game text has at most 200 characters.")
    static void textOf200Characters() {
        PushdownGameSolver x = typed(FULL);
        Check.due("append as the 201st character", x.append(';'), -3);
        Check.due("configure() of 200 characters", x.configure(), 0);
        Check.due("clearText() of 200 characters", x.clearText(), 200);
        PushdownGameSolver y = typed(FULL.substring(0, 199));
        Check.due("configure() without the 200th character", y.configure(), -2);
        Check.due("append as the 200th character", y.append(';'), 200);
        Check.due("configure() with the 200th character", y.configure(), 0);
    }

    @Boundary(promise = 0, sentence = "It is a sequence of statements without blanks")
    static void noBlanks() {
        wellFormed("g2,2;o1;t0;");
        malformed(" g2,2;", 0);
        malformed("g2,2; ", 5);
        malformed("g2,2; o1;", 5);
        malformed("g2,2 ;o1;", 0);
        malformed(" ", 0);
        malformedInGame("o 1;", "o1 ;", "r0, 0,0;", "r0,0 ,0;", "r0,0,0 ;", " ;");
    }

    @Boundary(promise = 0, sentence = "every number in it is a single decimal digit")
    static void singleDigits() {
        wellFormed("g2,2;o1;r0,0,1,0,1;");
        malformed("g02,2;", 0);
        malformed("g2,02;", 0);
        malformed("g,2;", 0);
        malformed("g2,;", 0);
        malformedInGame("o01;", "o10;", "o;", "t00;", "r00,0,0;", "r0,00,0;", "r0,0,00;", "r0,0,0,00;",
                "r0,0,0,0,00;", "r,0,0;", "r0,,0;", "r0,0,;", "r0,0,0,;", "r0,0,0,,0;", "o-1;", "o+1;",
                "o/;", "o:;", "r0,0,/;", "r0,0,:;", "r0,0,0,/;", "r0,0,0,0,/;", "r0,0,0,/,/;", "oa;");
    }

    @Boundary(promise = 0, sentence = "gS,K; the game has S states (1 to 4) and K symbols (1 to 3)")
    static void sizesOfGame() {
        for (int states = 0; states <= 9; states++) {
            for (int symbols = 0; symbols <= 9; symbols++) {
                String text = "g" + states + "," + symbols + ";";
                if (states >= 1 && states <= 4 && symbols >= 1 && symbols <= 3) {
                    wellFormed(text);
                    PushdownGameSolver x = Check.configured(text);
                    Check.due("ownerOf the last state of " + text, x.ownerOf(states - 1), 0);
                    Check.due("ownerOf a state behind it", x.ownerOf(states), -1);
                    Check.due("push of the last symbol of " + text, x.push(symbols - 1), 2);
                    Check.due("push of a symbol behind it", x.push(symbols), -1);
                } else {
                    malformed(text, 0);
                }
            }
        }
    }

    @Boundary(promise = 0, sentence = "exactly one such statement, which is the first statement")
    static void exactlyOneGame() {
        wellFormed("g1,1;");
        malformed("o0;", 0);
        malformed("g1,1;g1,1;", 5);
        malformed("g1,1;o0;g1,1;t0;", 8);
        malformed("o0;g1,1;", 0);
    }

    @Boundary(promise = 0, sentence = "oP; state P belongs to the opponent")
    static void opponentStatement() {
        PushdownGameSolver x = Check.configured("g4,1;o0;o3;");
        for (int state = 0; state < 4; state++) {
            Check.due("ownerOf(" + state + ")", x.ownerOf(state), state == 0 || state == 3 ? 1 : 0);
            Check.due("isTarget(" + state + ")", x.isTarget(state), 0);
        }
        malformedInGame("o;", "o0", "o0,;", "o0,0;", "O0;", "oo0;", "o0o1;");
    }

    @Boundary(promise = 0, sentence = "tP; state P is a target")
    static void targetStatement() {
        PushdownGameSolver x = Check.configured("g4,1;t0;t3;");
        for (int state = 0; state < 4; state++) {
            Check.due("isTarget(" + state + ")", x.isTarget(state), state == 0 || state == 3 ? 1 : 0);
            Check.due("ownerOf(" + state + ")", x.ownerOf(state), 0);
        }
        malformedInGame("t;", "t0", "t0,;", "t0,0;", "T0;", "tt0;", "t0t1;");
    }

    @Boundary(promise = 0, sentence = "rP,G,Q; a rule with state P, top symbol G and next state Q that pushes no symbol")
    static void ruleWithoutWord() {
        PushdownGameSolver x = Check.configured("g4,3;r0,0,3;r3,2,0;");
        Check.rule(x, 0, 0, 0, 3);
        Check.rule(x, 1, 3, 2, 0);
        malformedInGame("r;", "r0;", "r0,0;", "r0,0,0", "r0,0,;", "R0,0,0;", "r000;", "r0.0.0;", "r0;0;0;",
                "r0,0;0;");
    }

    @Boundary(promise = 0, sentence = "rP,G,Q,A; the same, but the rule pushes the symbol A")
    static void ruleWithOneSymbol() {
        PushdownGameSolver x = Check.configured("g4,3;r0,0,3,2;r3,2,0,0;");
        Check.rule(x, 0, 0, 0, 3, 2);
        Check.rule(x, 1, 3, 2, 0, 0);
        malformedInGame("r0,0,0,0", "r0,0,0,;", "r0,0,0,0,;");
    }

    @Boundary(promise = 0,
            sentence = "rP,G,Q,A,B; the same, but the rule pushes the upper symbol A and the lower symbol B")
    static void ruleWithTwoSymbols() {
        PushdownGameSolver x = Check.configured("g4,3;r0,0,3,2,0;r3,2,0,0,2;");
        Check.rule(x, 0, 0, 0, 3, 2, 0);
        Check.rule(x, 1, 3, 2, 0, 0, 2);
        malformedInGame("r0,0,0,0,0", "r0,0,0,0,;", "r0,0,0,0,0,;", "r0,0,0,0,0,0;");
    }

    @Boundary(promise = 0, sentence = "A state without an o statement belongs to the reacher.")
    static void stateWithoutStatement() {
        PushdownGameSolver x = Check.configured("g4,1;o2;");
        for (int state = 0; state < 4; state++) {
            Check.due("ownerOf(" + state + ")", x.ownerOf(state), state == 2 ? 1 : 0);
        }
        Check.type(x, "g4,1;");
        Check.due("configure() without o", x.configure(), 0);
        Check.due("ownerOf(2) without o", x.ownerOf(2), 0);
    }

    @Boundary(promise = 0, sentence = "Stating o or t of a state again changes nothing.")
    static void statedAgain() {
        wellFormed("g2,1;o1;t1;o1;t1;o1;t1;");
        PushdownGameSolver once = Check.configured("g3,1;o1;t2;r0,0,1;");
        PushdownGameSolver again = Check.configured("g3,1;o1;t2;o1;r0,0,1;t2;o1;o1;");
        for (int state = 0; state < 3; state++) {
            Check.due("ownerOf(" + state + ")", again.ownerOf(state), once.ownerOf(state));
            Check.due("isTarget(" + state + ")", again.isTarget(state), once.isTarget(state));
        }
        Check.due("ownerOf(1) stated twice", again.ownerOf(1), 1);
        Check.due("isTarget(2) stated twice", again.isTarget(2), 1);
    }

    @Boundary(promise = 0, sentence = "A statement is malformed if it does not have one of these forms")
    static void noForm() {
        wellFormed("g2,2;o0;t0;r0,0,0;r0,0,0,0;r0,0,0,0,0;");
        malformed("g", 0);
        malformed("g2", 0);
        malformed("g2,2", 0);
        malformed("g2;", 0);
        malformed("g2,2,2;", 0);
        malformed(";", 0);
        malformed("G2,2;", 0);
        malformedInGame(";", "x;", "x0;", "0;", ",;", "o,;", "p0;", "s0,0,0;", "q;", "~;");
        malformed("g2,2;o0", 5);
        malformed("g2,2;o0;t", 8);
        malformed("g2,2;;", 5);
    }

    @Boundary(promise = 0, sentence = "if a state or symbol does not exist")
    static void noSuchStateOrSymbol() {
        wellFormed("g2,2;o1;t1;r1,1,1,1,1;");
        malformedInGame("o2;", "o9;", "t2;", "t9;", "r2,0,0;", "r9,0,0;", "r0,2,0;", "r0,9,0;", "r0,0,2;", "r0,0,9;",
                "r0,0,0,2;", "r0,0,0,9;", "r0,0,0,2,0;", "r0,0,0,0,2;", "r0,0,0,0,9;");
        wellFormed("g4,3;o3;t3;r3,2,3,2,2;");
        malformed("g4,3;o4;", 5);
        malformed("g4,3;t4;", 5);
        malformed("g4,3;r3,3,3;", 5);
        malformed("g4,3;r3,2,3,3;", 5);
        malformed("g4,3;r3,2,3,2,3;", 5);
        wellFormed("g1,1;o0;t0;r0,0,0,0,0;");
        malformed("g1,1;o1;", 5);
        malformed("g1,1;r0,1,0;", 5);
        malformed("g1,1;r0,0,1;", 5);
    }

    @Boundary(promise = 0, sentence = "if it is a g statement that is not the first statement")
    static void gameNotFirst() {
        wellFormed("g2,2;");
        malformedInGame("g2,2;", "g1,1;", "g4,3;");
        malformed("g2,2;g2,2;", 5);
    }

    @Boundary(promise = 0, sentence = "if it is the first statement and not a g statement")
    static void firstNotGame() {
        wellFormed("g2,2;o0;");
        for (String text : new String[] {"o0;", "t0;", "r0,0,0;", "r0,0,0,0;", "r0,0,0,0,0;", "o0;g2,2;", ";g2,2;"}) {
            malformed(text, 0);
        }
    }

    @Boundary(promise = 0,
            sentence = "if it states a 17th rule or a fourth rule with the same state and top symbol")
    static void ruleTooMany() {
        String sixteen = Check.sixteenRules();
        wellFormed(sixteen);
        Check.due("configure() of 16 rules", typed(sixteen).configure(), 16);
        wellFormed(sixteen + "o1;t2;");
        malformed(sixteen + "r3,2,0;", sixteen.length());
        malformed(sixteen + "o1;r3,2,0;", sixteen.length() + 3);
        String three = "g2,2;r1,1,0;r1,1,0,0;r1,1,1,0,0;";
        wellFormed(three);
        wellFormed(three + "r0,1,0;r1,0,0;");
        malformed(three + "r1,1,0;", three.length());
        malformed(three + "r0,1,0;r1,0,0;r1,1,0;", three.length() + 14);
    }

    @Boundary(promise = 1, sentence = "as if it had been configured")
    static void newObjectIsConfigured() {
        PushdownGameSolver x = new PushdownGameSolver();
        Check.due("undo() of a new object", x.undo(), -2);
        Check.configuration(x, 0, 0);
        Check.due("ruleCount()", x.ruleCount(), 6);
        Check.rule(x, 0, 0, 0, 1, 0, 1);
        Check.rule(x, 5, 1, 1, 0, 1);
        Check.due("ruleState(6)", x.ruleState(6), -1);
        Check.due("ownerOf(2)", x.ownerOf(2), 0);
        Check.due("ownerOf(3)", x.ownerOf(3), -1);
        Check.due("push(1)", x.push(1), 2);
        Check.due("push(2)", x.push(2), -1);
    }

    @Boundary(promise = 1, sentence = "with an empty game text")
    static void newObjectHasNoText() {
        PushdownGameSolver x = new PushdownGameSolver();
        Check.due("clearText() of a new object", x.clearText(), 0);
        Check.due("firstError() of a new object", x.firstError(), -4);
        Check.due("configure() of a new object", x.configure(), -2);
        Check.due("append to a new object", x.append('g'), 1);
    }

    @Boundary(promise = 2, sentence = "`character`: an ASCII code from 32 to 126")
    static void everyCharacter() {
        for (int character = 0; character <= 260; character++) {
            boolean fits = character >= 32 && character <= 126;
            PushdownGameSolver x = new PushdownGameSolver();
            Check.due("append(" + character + ")", x.append(character), fits ? 1 : -1);
            Check.due("firstError() after it", x.firstError(), fits ? 0 : -4);
        }
    }

    @Boundary(promise = 2, sentence = "Returns the new length of the text")
    static void newLength() {
        PushdownGameSolver x = new PushdownGameSolver();
        for (int length = 1; length <= 200; length++) {
            Check.due("append number " + length, x.append('o'), length);
        }
        x.clearText();
        Check.due("append to the emptied text", x.append('o'), 1);
    }

    @Boundary(promise = 2, sentence = "INVALID_ARGUMENT if character is out of range")
    static void characterOutOfRange() {
        for (int character : Check.outside(32, 126)) {
            Refused.due("append(" + character + ")", x -> x.append(character), -1);
        }
        Refused.due("append(65536 + 'o')", x -> x.append(65536 + 'o'), -1);
        Refused.due("append(min + 'o')", x -> x.append(Integer.MIN_VALUE + 'o'), -1);
        Check.due("append(32) after them", new PushdownGameSolver().append(32), 1);
    }

    @Boundary(promise = 2, sentence = "CAPACITY_EXCEEDED if the text already has 200 characters")
    static void textIsFull() {
        Refused.due("append to 200 characters", () -> typed(FULL), x -> x.append(';'), -3);
        Refused.due("append(32) to 200 characters", () -> typed(FULL), x -> x.append(32), -3);
        Check.due("append to 199 characters", typed(FULL.substring(1)).append('o'), 200);
        PushdownGameSolver x = typed(FULL);
        x.append('o');
        x.clearText();
        Check.due("append after clearText()", x.append('o'), 1);
    }

    @Boundary(promise = 2, sentence = "INVALID_ARGUMENT if character is out of range")
    static void characterOutOfRangeOfFullText() {
        Refused.due("append(31) to 200 characters", () -> typed(FULL), x -> x.append(31), -1);
        Refused.due("append(127) to 200 characters", () -> typed(FULL), x -> x.append(127), -1);
    }

    @Boundary(promise = 3, sentence = "Makes the game text empty.")
    static void textMadeEmpty() {
        for (String text : new String[] {"", "g", FULL}) {
            PushdownGameSolver x = typed(text);
            x.clearText();
            Check.due("firstError() of the emptied text", x.firstError(), -4);
            Check.due("configure() of the emptied text", x.configure(), -2);
            Check.due("append to the emptied text", x.append('x'), 1);
            Check.due("firstError() of the new text", x.firstError(), 0);
        }
    }

    @Boundary(promise = 3, sentence = "Returns the length it had.")
    static void lengthItHad() {
        for (int length : new int[] {0, 1, 2, 199, 200}) {
            PushdownGameSolver x = typed(FULL.substring(0, length));
            Check.due("clearText() of " + length, x.clearText(), length);
            Check.due("clearText() again", x.clearText(), 0);
        }
    }

    @Boundary(promise = 4, sentence = "Finds the first malformed statement of the game text.")
    static void firstOfSeveral() {
        malformed("x;x;x;", 0);
        malformed("g2,2;x;y;", 5);
        malformed("g2,2;o0;x;o9;g", 8);
        malformed("g9,2;o9;", 0);
        malformed("g2,2;g", 5);
    }

    @Boundary(promise = 4, sentence = "Returns the index (from 0) of its first character")
    static void indexOfFirstCharacter() {
        malformed("x", 0);
        malformed("g2,2;x", 5);
        String text = "g4,3;r0,0,0;r0,0,0;" + "o0;".repeat(60);
        wellFormed(text);
        malformed(text + "x", 199);
        malformed(FULL.substring(0, 199), 197);
        malformed(FULL.substring(0, 198), 197);
        wellFormed(FULL.substring(0, 197));
        malformed("x".repeat(200), 0);
        malformed(";".repeat(200), 0);
    }

    @Boundary(promise = 4, sentence = "NOT_FOUND if no statement is malformed (an empty text has none)")
    static void noneMalformed() {
        Check.due("firstError() of a new object", new PushdownGameSolver().firstError(), -4);
        Refused.due("firstError() of no text", () -> typed(""), PushdownGameSolver::firstError, -4);
        Refused.due("firstError() of 200 characters", () -> typed(FULL), PushdownGameSolver::firstError, -4);
        Refused.due("firstError() of another game", PushdownGameSolver::firstError, -4);
        Check.due("firstError() of one character", typed("g").firstError(), 0);
    }

    @Boundary(promise = 5, sentence = "Configures the solver by the game text, which stays as it is.")
    static void textStays() {
        for (String text : new String[] {"g1,1;", FULL}) {
            PushdownGameSolver x = typed(text);
            Check.due("configure()", x.configure(), 0);
            Check.due("firstError() after it", x.firstError(), -4);
            Check.due("configure() again", x.configure(), 0);
            Check.due("clearText() after it", x.clearText(), text.length());
        }
    }

    @Boundary(promise = 5, sentence = "Returns the number of rules")
    static void numberOfRulesRead() {
        Check.due("configure() without rules", typed("g1,1;").configure(), 0);
        Check.due("configure() with one rule", typed("g1,1;r0,0,0;").configure(), 1);
        Check.due("configure() with 16 rules", typed(Check.sixteenRules()).configure(), 16);
        PushdownGameSolver x = typed(Check.sixteenRules());
        x.configure();
        Check.type(x, "g1,1;");
        Check.due("configure() without rules after 16", x.configure(), 0);
        Check.due("ruleCount() after it", x.ruleCount(), 0);
    }

    @Boundary(promise = 5, sentence = "NOT_POSSIBLE if the text is empty or a statement is malformed")
    static void configureRefused() {
        Refused.due("configure() of a new object", PushdownGameSolver::new, PushdownGameSolver::configure, -2);
        for (String text : new String[] {"", "g", "x", "g2,2;x", "g2,2;o0;t1;r0,0,1;r0,0,2;", Check.sixteenRules()
            + "r3,2,0;", "g1,1;o0;t0;g1,1;"}) {
            Refused.due("configure() of " + text, () -> busyWith(text), PushdownGameSolver::configure, -2);
        }
        PushdownGameSolver x = typed("g2,2;o");
        Check.due("configure() of an unended statement", x.configure(), -2);
        x.append('0');
        Check.due("configure() of a statement without its end", x.configure(), -2);
        x.append(';');
        Check.due("configure() of the ended statement", x.configure(), 0);
        Check.due("ownerOf(0)", x.ownerOf(0), 1);
    }

    private static PushdownGameSolver busyWith(String text) {
        PushdownGameSolver x = Refused.busy();
        Check.type(x, text);
        return x;
    }
}
