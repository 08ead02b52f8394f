/** At least one test for each promise of the document: ordinary inputs, the named edges and wrong inputs. */
public final class PromiseTest {
    private static final int[] NEVER = {Integer.MIN_VALUE, -65, -64, -3, -2, 61, 64, 1 << 30, Integer.MAX_VALUE};

    private PromiseTest() {
    }

    public static void main(String[] args) {
        promise1();
        promise2();
        promise3();
        promise4();
        promise5();
        promise6();
        promise7();
        promise8();
        promise9();
        promise10();
        promise11();
        promise12();
        promise13();
        promise13Limits();
        promise14to18();
        promise19and20();
        promise21to23();
        promise24();
        promise25();
        promise26();
        promise27();
        promise27Search();
        promise28();
        fullRows();
        promise29();
        promise30and31();
        promise32();
        errorsChangeNothing();
        Check.end();
    }

    private static void promise1() {
        PushdownGameSolver x = new PushdownGameSolver();
        Check.due("1 ruleCount()", x.ruleCount(), 6);
        Check.rule(x, 0, 0, 0, 1, 0, 1);
        Check.rule(x, 1, 0, 1, 0);
        Check.rule(x, 2, 1, 0, 0);
        Check.rule(x, 3, 1, 0, 1, 1);
        Check.rule(x, 4, 1, 1, 2);
        Check.rule(x, 5, 1, 1, 0, 1);
        for (int q = 0; q < 3; q++) {
            Check.due("1 ownerOf(" + q + ")", x.ownerOf(q), q == 1 ? 1 : 0);
            Check.due("1 isTarget(" + q + ")", x.isTarget(q), q == 2 ? 1 : 0);
        }
        Check.due("1 ownerOf(3)", x.ownerOf(3), -1);
        Check.due("1 push(2)", x.push(2), -1);
        Check.configuration(x, 0, 0);
        Check.due("1 undo()", x.undo(), -2);
        Check.due("1 configure()", x.configure(), -2);
        Check.due("1 firstError()", x.firstError(), -4);
        Check.due("1 clearText()", x.clearText(), 0);
    }

    private static void promise2() {
        PushdownGameSolver x = new PushdownGameSolver();
        Check.due("2 append(31)", x.append(31), -1);
        Check.due("2 append(127)", x.append(127), -1);
        Check.due("2 append(min)", x.append(Integer.MIN_VALUE), -1);
        Check.due("2 append(max)", x.append(Integer.MAX_VALUE), -1);
        Check.due("2 append(65536 + 'g')", x.append(65536 + 'g'), -1);
        Check.due("2 append(32)", x.append(32), 1);
        Check.due("2 append(126)", x.append(126), 2);
        for (int i = 3; i <= 200; i++) {
            Check.due("2 append of character " + i, x.append('t'), i);
        }
        Check.due("2 append to a full text", x.append('t'), -3);
        Check.due("2 append of no character to a full text", x.append(127), -1);
        Check.due("2 clearText()", x.clearText(), 200);
        Check.due("2 append to the emptied text", x.append('g'), 1);
    }

    private static void promise3() {
        PushdownGameSolver x = Check.configured(Check.DIG);
        x.push(1);
        Check.due("3 clearText()", x.clearText(), Check.DIG.length());
        Check.due("3 clearText() again", x.clearText(), 0);
        Check.due("3 ruleCount() after clearText", x.ruleCount(), 2);
        Check.configuration(x, 0, 1, 0);
        Check.due("3 undo() after clearText", x.undo(), 0);
        Check.due("3 append after clearText", x.append('x'), 1);
    }

    private static void error(String text, int want) {
        PushdownGameSolver x = new PushdownGameSolver();
        Check.type(x, text);
        Check.due("4 firstError() of " + text, x.firstError(), want);
        Check.due("4 firstError() again of " + text, x.firstError(), want);
        int configured = x.configure();
        Check.holds("5 configure of " + text, text.isEmpty() || want != -4 ? configured == -2 : configured >= 0);
        Check.due("4 clearText() of " + text, x.clearText(), text.length());
    }

    private static void promise4() {
        for (String fine : new String[] {"", "g1,1;", "g4,3;", "g4,3;o3;t3;r3,2,3,2,2;", "g2,1;o1;o1;t1;t1;",
            "g2,1;r0,0,1;r0,0,1;r0,0,1;r1,0,0;", Check.DIG}) {
            error(fine, -4);
        }
        for (String first : new String[] {"g0,1;", "g5,1;", "g1,0;", "g1,4;", "g;", "g1;", "g1,;", "g1,1,1;", "g1,1",
            "g11,1;", "g1,11;", "g1.1;", "G1,1;", " g1,1;", "g 1,1;", "g1,1 ;", "o0;", "t0;", "r0,0,0;", ";", ";g1,1;",
            "g", "x", "g1,1o0;", "gx,1;", "g1,x;", "g1,1,;"}) {
            error(first, 0);
        }
        for (String second : new String[] {";", "g2,1;", "o2;", "t2;", "o9;", "o;", "t;", "o,;", "o1,0;", "t0,0;",
            "o00;", "o0 ;", " o0;", "o0", "t0", "x0;", "O0;", "0;", "r;", "r0;", "r0,0;", "r0,0,1", "r0,0,1,", "r2,0,0;",
            "r0,1,0;", "r0,0,2;", "r0,0,0,1;", "r0,0,0,0,1;", "r0,0,0,1,0;", "r0,0,0,0,0,0;", "r0,0,0,;", "r0,,0;",
            "r,0,0;", "r00,0,0;", "r0,0,0,0,;", "r0 0 0;", "r0;0;0;", "r0.0.0;", "r0,0,/;", "r0,0,:;", "o/;", "o:;",
            "R0,0,0;", "g2,1", "r-1,0,0;", "o0,;", "t0t1;", "r0,0;0;", "r0,0,0,/;", "r0,0,0,0,/;"}) {
            error("g2,1;" + second, 5);
            error("g2,1;o0;t1;" + second + "o0;x", 11);
        }
        error("g2,1;r0,0,1;r0,0,1;r0,0,1;r0,0,0,0;", 26);
        error("g2,2;r0,0,1;r0,0,1;r0,0,1;r0,1,1;r1,0,1;r0,0,1;", 40);
        error(Check.sixteenRules(), -4);
        error(Check.sixteenRules() + "o1;", -4);
        error(Check.sixteenRules() + "r3,2,0;", Check.sixteenRules().length());
    }

    private static void promise5() {
        PushdownGameSolver x = new PushdownGameSolver();
        x.push(1);
        Check.due("5 configure() of an empty text", x.configure(), -2);
        Check.type(x, "g2,2;o0;t1;r0,1,0,1,0;r1,0,0,1;r1,1,0;x");
        Check.due("5 configure() of a malformed text", x.configure(), -2);
        Check.due("5 ruleCount() of the old game", x.ruleCount(), 6);
        Check.configuration(x, 0, 1, 0);
        Check.due("5 undo() after a refused configure", x.undo(), 0);
        x.push(1);
        String text = "g2,2;o0;t1;r0,1,0,1,0;r1,0,0,1;r1,1,0;";
        Check.type(x, text);
        x.winner();
        Check.due("5 configure()", x.configure(), 3);
        Check.due("5 undo() after configure", x.undo(), -2);
        Check.rule(x, 0, 0, 1, 0, 1, 0);
        Check.rule(x, 1, 1, 0, 0, 1);
        Check.rule(x, 2, 1, 1, 0);
        Check.configuration(x, 0, 0);
        Check.due("5 ownerOf(0)", x.ownerOf(0), 1);
        Check.due("5 ownerOf(1)", x.ownerOf(1), 0);
        Check.due("5 isTarget(0)", x.isTarget(0), 0);
        Check.due("5 isTarget(1)", x.isTarget(1), 1);
        Check.due("5 ownerOf(2)", x.ownerOf(2), -1);
        Check.due("5 rounds()", x.rounds(), 0);
        Check.due("5 configure() again", x.configure(), 3);
        Check.due("5 clearText()", x.clearText(), text.length());
        Check.type(x, "g4,3;");
        Check.due("5 configure() without rules", x.configure(), 0);
        Check.due("5 ownerOf(0) is the reacher again", x.ownerOf(0), 0);
        Check.due("5 isTarget(1) is none again", x.isTarget(1), 0);
        Check.due("5 ownerOf(3)", x.ownerOf(3), 0);
        Check.due("5 push(2)", x.push(2), 2);
    }

    private static void promise6() {
        PushdownGameSolver x = new PushdownGameSolver();
        int[][] wrong = {{-1, 0, 0, 0, 0}, {3, 0, 0, 0, 0}, {0, -1, 0, 0, 0}, {0, 2, 0, 0, 0}, {0, 0, -1, 0, 0},
            {0, 0, 3, 0, 0}, {0, 0, 0, -2, -1}, {0, 0, 0, 2, 0}, {0, 0, 0, 0, -2}, {0, 0, 0, 0, 2}, {0, 0, 0, -1, 0},
            {0, 0, 0, -1, 2}, {0, 0, 0, -1, -2}};
        for (int[] w : wrong) {
            Check.due("6 a wrong addRule", x.addRule(w[0], w[1], w[2], w[3], w[4]), -1);
        }
        for (int n : NEVER) {
            Check.due("6 addRule with state " + n, x.addRule(n, 0, 0, 0, 0), -1);
            Check.due("6 addRule with top " + n, x.addRule(0, n, 0, 0, 0), -1);
            Check.due("6 addRule with next " + n, x.addRule(0, 0, n, 0, 0), -1);
            Check.due("6 addRule with upper " + n, x.addRule(0, 0, 0, n, 0), -1);
            Check.due("6 addRule with lower " + n, x.addRule(0, 0, 0, 0, n), -1);
        }
        Check.due("6 addRule", x.addRule(0, 0, 2, 1, 0), 6);
        Check.due("6 the winner is found anew", x.winner(), 0);
        Check.due("6 addRule of no word", x.addRule(0, 0, 2, -1, -1), 7);
        Check.rule(x, 6, 0, 0, 2, 1, 0);
        Check.rule(x, 7, 0, 0, 2);
        Check.due("6 a fourth rule of a pair", x.addRule(0, 0, 2, 0, -1), -3);
        Check.due("6 a wrong fourth rule of a pair", x.addRule(0, 0, 2, 0, 2), -1);
        Check.due("6 addRule of one symbol", x.addRule(0, 1, 2, 1, -1), 8);
        Check.rule(x, 8, 0, 1, 2, 1);
        PushdownGameSolver y = Check.configured("g4,3;");
        for (int i = 0; i < 16; i++) {
            Check.due("6 addRule " + i, y.addRule(i % 4, i / 4 % 3, 3, 2, 2), i);
        }
        Check.due("6 a 17th rule", y.addRule(3, 2, 0, 0, 0), -3);
        Check.due("6 a wrong 17th rule", y.addRule(4, 2, 0, 0, 0), -1);
        Check.due("6 ruleCount()", y.ruleCount(), 16);
    }

    private static void promise7() {
        PushdownGameSolver x = new PushdownGameSolver();
        Check.due("7 removeRule(-1)", x.removeRule(-1), -1);
        Check.due("7 removeRule(6)", x.removeRule(6), -1);
        for (int n : NEVER) {
            Check.due("7 removeRule(" + n + ")", x.removeRule(n), -1);
        }
        Check.due("7 rounds() before", x.rounds(), 4);
        Check.due("7 removeRule(2)", x.removeRule(2), 5);
        Check.rule(x, 1, 0, 1, 0);
        Check.rule(x, 2, 1, 0, 1, 1);
        Check.rule(x, 3, 1, 1, 2);
        Check.rule(x, 4, 1, 1, 0, 1);
        Check.due("7 ruleState(5)", x.ruleState(5), -1);
        Check.due("7 removeRule(4)", x.removeRule(4), 4);
        Check.due("7 the winner is found anew", x.winner(), 0);
        Check.due("7 removeRule(0)", x.removeRule(0), 3);
        Check.rule(x, 0, 0, 1, 0);
        for (int left = 2; left >= 0; left--) {
            Check.due("7 removeRule(0) again", x.removeRule(0), left);
        }
        Check.due("7 removeRule(0) of none", x.removeRule(0), -1);
        PushdownGameSolver y = Check.configured(Check.sixteenRules());
        Check.due("7 removeRule(15) of 16", y.removeRule(15), 15);
        Check.due("7 addRule after it", y.addRule(3, 0, 1, 2, 1), 15);
        Check.rule(y, 15, 3, 0, 1, 2, 1);
    }

    private static void promise8() {
        PushdownGameSolver x = new PushdownGameSolver();
        Check.due("8 setOwner(-1, 0)", x.setOwner(-1, 0), -1);
        Check.due("8 setOwner(3, 0)", x.setOwner(3, 0), -1);
        Check.due("8 setOwner(0, 2)", x.setOwner(0, 2), -1);
        Check.due("8 setOwner(0, -1)", x.setOwner(0, -1), -1);
        for (int n : NEVER) {
            Check.due("8 setOwner(" + n + ", 0)", x.setOwner(n, 0), -1);
            Check.due("8 setOwner(0, " + n + ")", x.setOwner(0, n), -1);
        }
        Check.due("8 winner() before", x.winner(), 1);
        Check.due("8 setOwner(1, 0)", x.setOwner(1, 0), 1);
        Check.due("8 winner() after", x.winner(), 0);
        Check.due("8 setOwner(1, 0) again", x.setOwner(1, 0), 0);
        Check.due("8 setOwner(1, 1)", x.setOwner(1, 1), 0);
        Check.due("8 setOwner(1, 1) again", x.setOwner(1, 1), 1);
        Check.due("8 setOwner(2, 1)", x.setOwner(2, 1), 0);
        Check.due("8 ownerOf(0)", x.ownerOf(0), 0);
        Check.due("8 ownerOf(1)", x.ownerOf(1), 1);
        Check.due("8 ownerOf(2)", x.ownerOf(2), 1);
    }

    private static void promise9() {
        PushdownGameSolver x = new PushdownGameSolver();
        Check.due("9 setTarget(-1, 0)", x.setTarget(-1, 0), -1);
        Check.due("9 setTarget(3, 0)", x.setTarget(3, 0), -1);
        Check.due("9 setTarget(0, 2)", x.setTarget(0, 2), -1);
        Check.due("9 setTarget(0, -1)", x.setTarget(0, -1), -1);
        for (int n : NEVER) {
            Check.due("9 setTarget(" + n + ", 0)", x.setTarget(n, 0), -1);
            Check.due("9 setTarget(0, " + n + ")", x.setTarget(0, n), -1);
        }
        Check.due("9 winner() before", x.winner(), 1);
        Check.due("9 setTarget(1, 1)", x.setTarget(1, 1), 0);
        Check.due("9 winner() after", x.winner(), 0);
        Check.due("9 setTarget(1, 1) again", x.setTarget(1, 1), 1);
        Check.due("9 isTarget(1)", x.isTarget(1), 1);
        Check.due("9 setTarget(1, 0)", x.setTarget(1, 0), 1);
        Check.due("9 setTarget(1, 0) again", x.setTarget(1, 0), 0);
        Check.due("9 winner() of a target taken back", x.winner(), 1);
        Check.due("9 isTarget(2)", x.isTarget(2), 1);
    }

    private static void promise10() {
        PushdownGameSolver x = new PushdownGameSolver();
        Check.due("10 place(-1)", x.place(-1), -1);
        Check.due("10 place(3)", x.place(3), -1);
        for (int n : NEVER) {
            Check.due("10 place(" + n + ")", x.place(n), -1);
        }
        Check.configuration(x, 0, 0);
        x.push(1);
        Check.due("10 place(2)", x.place(2), 2);
        Check.configuration(x, 2);
        Check.due("10 place(2) again", x.place(2), 0);
        for (int i = 0; i < 12; i++) {
            x.push(1);
        }
        Check.due("10 place(1)", x.place(1), 12);
        Check.configuration(x, 1);
    }

    private static void promise11() {
        PushdownGameSolver x = new PushdownGameSolver();
        Check.due("11 push(-1)", x.push(-1), -1);
        Check.due("11 push(2)", x.push(2), -1);
        for (int n : NEVER) {
            Check.due("11 push(" + n + ")", x.push(n), -1);
        }
        for (int i = 2; i <= 12; i++) {
            Check.due("11 push number " + i, x.push(i % 2), i);
        }
        Check.due("11 push on a full stack", x.push(0), -3);
        Check.due("11 a wrong push on a full stack", x.push(2), -1);
        Check.configuration(x, 0, 0, 1, 0, 1, 0, 1, 0, 1, 0, 1, 0, 0);
    }

    private static void promise12() {
        PushdownGameSolver x = Check.configured("g3,3;r0,0,1,1,2;r1,1,2,0;r2,0,0;r0,2,0,2;");
        Check.due("12 play(-1)", x.play(-1), -1);
        Check.due("12 play(4)", x.play(4), -1);
        for (int n : NEVER) {
            Check.due("12 play(" + n + ")", x.play(n), -1);
        }
        Check.due("12 play(1) in another state", x.play(1), -2);
        Check.due("12 play(3) with another top", x.play(3), -2);
        Check.due("12 play(0)", x.play(0), 1);
        Check.configuration(x, 1, 1, 2);
        Check.due("12 play(1)", x.play(1), 2);
        Check.configuration(x, 2, 0, 2);
        Check.due("12 play(2)", x.play(2), 0);
        Check.configuration(x, 0, 2);
        Check.due("12 play(3)", x.play(3), 0);
        Check.configuration(x, 0, 2);
        x.place(0);
        Check.due("12 play(0) with an empty stack", x.play(0), -2);
        Check.placed(x, 0, 0, 0, 0, 0, 0, 0, 0, 0, 0, 0, 1);
        Check.due("12 play(0) to 12 symbols", x.play(0), 1);
        Check.configuration(x, 1, 1, 2, 0, 0, 0, 0, 0, 0, 0, 0, 0, 1);
        Check.due("12 play(1) on 12 symbols", x.play(1), 2);
        Check.due("12 play(0) that is not playable on 12 symbols", x.play(0), -2);
        Check.placed(x, 0, 0, 0, 0, 0, 0, 0, 0, 0, 0, 0, 0, 1);
        Check.due("12 play(0) to 13 symbols", x.play(0), -3);
        Check.configuration(x, 0, 0, 0, 0, 0, 0, 0, 0, 0, 0, 0, 0, 1);
    }

    private static void promise13() {
        PushdownGameSolver x = new PushdownGameSolver();
        Check.due("13 undo() of nothing", x.undo(), -2);
        Check.due("13 append", x.append('g'), 1);
        x.addRule(0, 0, 2, 1, -1);
        Check.due("13 winner() with the rule", x.winner(), 0);
        x.removeRule(0);
        x.setOwner(0, 1);
        x.setTarget(0, 1);
        x.push(1);
        x.place(2);
        Check.due("13 undo() of place", x.undo(), 5);
        Check.configuration(x, 0, 1, 0);
        Check.due("13 undo() of push", x.undo(), 4);
        Check.configuration(x, 0, 0);
        Check.due("13 undo() of setTarget", x.undo(), 3);
        Check.due("13 isTarget(0)", x.isTarget(0), 0);
        Check.due("13 undo() of setOwner", x.undo(), 2);
        Check.due("13 ownerOf(0)", x.ownerOf(0), 0);
        Check.due("13 undo() of removeRule", x.undo(), 1);
        Check.due("13 ruleCount()", x.ruleCount(), 7);
        Check.rule(x, 0, 0, 0, 1, 0, 1);
        Check.rule(x, 5, 1, 1, 0, 1);
        Check.rule(x, 6, 0, 0, 2, 1);
        Check.due("13 undo() of addRule", x.undo(), 0);
        Check.due("13 ruleCount() at last", x.ruleCount(), 6);
        Check.due("13 winner() is found anew", x.winner(), 1);
        Check.due("13 undo() of no more", x.undo(), -2);
        x.play(0);
        Check.configuration(x, 1, 0, 1);
        Check.due("13 undo() of play", x.undo(), 0);
        Check.configuration(x, 0, 0);
        Check.due("13 the text is not affected", x.clearText(), 1);
    }

    private static void promise13Limits() {
        PushdownGameSolver x = new PushdownGameSolver();
        for (int i = 2; i <= 9; i++) {
            x.push(i % 2);
        }
        for (int left = 5; left >= 0; left--) {
            Check.due("13 undo() of eight changes", x.undo(), left);
        }
        Check.configuration(x, 0, 1, 0, 0);
        Check.due("13 undo() of the seventh", x.undo(), -2);
        x.setOwner(0, 0);
        x.setTarget(2, 1);
        x.place(0);
        x.place(0);
        Check.due("13 changes that change nothing", x.undo(), 3);
        x.push(9);
        x.play(0);
        x.removeRule(6);
        x.addRule(0, 0, 0, 0, 9);
        x.setOwner(9, 0);
        x.setTarget(9, 0);
        x.place(9);
        x.append('g');
        x.clearText();
        x.configure();
        Check.due("13 refused calls are no changes", x.undo(), 2);
        Check.configuration(x, 0, 1, 0, 0);
        x.push(1);
        Check.due("13 undo() after undo and push", x.undo(), 2);
        Check.due("13 undo() of setTarget", x.undo(), 1);
        Check.due("13 undo() of setOwner", x.undo(), 0);
        Check.due("13 undo() at the end", x.undo(), -2);
    }

    private static void promise14to18() {
        PushdownGameSolver x = Check.configured("g4,3;r3,2,1,2,0;r2,0,3,1;r1,1,0;");
        Check.due("14 ruleCount()", x.ruleCount(), 3);
        Check.rule(x, 0, 3, 2, 1, 2, 0);
        Check.rule(x, 1, 2, 0, 3, 1);
        Check.rule(x, 2, 1, 1, 0);
        for (int n : new int[] {-1, 3, 16, Integer.MIN_VALUE, Integer.MAX_VALUE}) {
            Check.due("15 ruleState(" + n + ")", x.ruleState(n), -1);
            Check.due("16 ruleTop(" + n + ")", x.ruleTop(n), -1);
            Check.due("17 ruleNext(" + n + ")", x.ruleNext(n), -1);
            Check.due("18 ruleSymbol(" + n + ", 0)", x.ruleSymbol(n, 0), -1);
        }
        for (int n : new int[] {-1, 2, 3, Integer.MIN_VALUE, Integer.MAX_VALUE}) {
            Check.due("18 ruleSymbol(0, " + n + ")", x.ruleSymbol(0, n), -1);
            Check.due("18 ruleSymbol(2, " + n + ")", x.ruleSymbol(2, n), -1);
        }
        PushdownGameSolver y = Check.configured("g1,1;");
        Check.due("14 ruleCount() of no rules", y.ruleCount(), 0);
        Check.due("15 ruleState(0) of no rules", y.ruleState(0), -1);
    }

    private static void promise19and20() {
        PushdownGameSolver x = Check.configured("g4,1;o0;o3;t1;t3;");
        int[] owners = {1, 0, 0, 1};
        int[] targets = {0, 1, 0, 1};
        for (int q = 0; q < 4; q++) {
            Check.due("19 ownerOf(" + q + ")", x.ownerOf(q), owners[q]);
            Check.due("20 isTarget(" + q + ")", x.isTarget(q), targets[q]);
        }
        for (int n : new int[] {-1, 4, 32, 33, Integer.MIN_VALUE, Integer.MAX_VALUE}) {
            Check.due("19 ownerOf(" + n + ")", x.ownerOf(n), -1);
            Check.due("20 isTarget(" + n + ")", x.isTarget(n), -1);
        }
    }

    private static void promise21to23() {
        PushdownGameSolver x = Check.configured("g4,3;");
        Check.placed(x, 3, 2, 0, 1, 2);
        Check.due("23 stackSymbol(4)", x.stackSymbol(4), -1);
        Check.due("23 stackSymbol(-1)", x.stackSymbol(-1), -1);
        for (int n : NEVER) {
            Check.due("23 stackSymbol(" + n + ")", x.stackSymbol(n), -1);
        }
        x.place(2);
        Check.due("21 presentState()", x.presentState(), 2);
        Check.due("22 stackSize()", x.stackSize(), 0);
        Check.due("23 stackSymbol(0) of an empty stack", x.stackSymbol(0), -1);
        Check.placed(x, 1, 2, 2, 1, 1, 0, 0, 2, 1, 0, 0, 1, 2);
        Check.due("23 stackSymbol(12)", x.stackSymbol(12), -1);
    }

    private static void promise24() {
        PushdownGameSolver x = Check.configured("g2,2;r0,0,1;r0,1,1;r0,0,0,1;r1,0,1;r0,0,0,0,0;");
        Check.due("24 playableRules() of three", x.playableRules(), 3);
        x.push(1);
        Check.due("24 playableRules() of one", x.playableRules(), 1);
        Check.placed(x, 1, 1);
        Check.due("24 playableRules() of none", x.playableRules(), 0);
        x.place(0);
        Check.due("24 playableRules() with an empty stack", x.playableRules(), 0);
        Check.placed(x, 0, 0, 0, 0, 0, 0, 0, 0, 0, 0, 0, 0, 0);
        Check.due("24 playableRules() with a full stack", x.playableRules(), 3);
    }

    private static void promise25() {
        PushdownGameSolver x = Check.configured("g4,2;o1;t2;r0,0,1;r1,0,0;r1,0,3;r0,1,2,0,0;r3,1,0,1;");
        Check.due("25 winner() with nothing below", x.winner(), 1);
        Check.placed(x, 0, 0, 0, 1);
        Check.due("25 the reacher forces from both states", x.winner(), 0);
        Check.placed(x, 0, 0, 0, 0);
        Check.due("25 the opponent gets out of the stack", x.winner(), 1);
        Check.placed(x, 1, 0, 1);
        Check.due("25 winner() in a state of the opponent", x.winner(), 0);
        x.removeRule(4);
        Check.due("25 the opponent has one way out", x.winner(), 1);
        Check.placed(x, 1, 1);
        Check.due("25 the opponent has no rule", x.winner(), 1);
        x.place(1);
        Check.due("25 the opponent has no stack", x.winner(), 1);
        x.place(0);
        Check.due("25 the reacher has no stack", x.winner(), 1);
        x.place(2);
        Check.due("25 a target with no stack", x.winner(), 0);
        x.setOwner(2, 1);
        Check.due("25 a target of the opponent", x.winner(), 0);
        PushdownGameSolver y = Check.configured("g1,1;r0,0,0,0;");
        Check.due("25 a game that goes on for ever", y.winner(), 1);
        PushdownGameSolver z = Check.configured("g2,1;o0;t1;r0,0,0,0,0;r0,0,1;");
        Check.due("25 an opponent who pushes for ever", z.winner(), 1);
    }

    private static void promise26() {
        PushdownGameSolver x = Check.configured("g2,3;t1;r0,0,0,1;r0,1,0,2;r0,2,1;");
        Check.due("26 winningRound() of a way of three", x.winningRound(), 3);
        Check.placed(x, 0, 1);
        Check.due("26 winningRound() of a way of two", x.winningRound(), 2);
        Check.placed(x, 0, 2);
        Check.due("26 winningRound() of a way of one", x.winningRound(), 1);
        Check.placed(x, 1, 2, 2);
        Check.due("26 winningRound() of a target", x.winningRound(), 0);
        x.place(1);
        Check.due("26 winningRound() of a target with no stack", x.winningRound(), 0);
        x.place(0);
        Check.due("26 winningRound() of none", x.winningRound(), -4);
        PushdownGameSolver y = Check.configured(Check.DIG);
        Check.placed(y, 0, 0, 0, 0, 0, 0, 0, 0, 0, 0, 0, 0, 1);
        Check.due("26 winningRound() is not the number of moves", y.winningRound(), 1);
        y.setTarget(1, 0);
        Check.due("26 winningRound() without a target", y.winningRound(), -4);
    }

    private static void promise27() {
        PushdownGameSolver x = Check.configured(Check.DIG);
        Check.due("27 distance() without a one", x.distance(), -4);
        Check.placed(x, 0, 1);
        Check.due("27 distance() of 1", x.distance(), 1);
        Check.placed(x, 0, 0, 0, 0, 0, 0, 0, 1);
        Check.due("27 distance() of 7", x.distance(), 7);
        x.push(0);
        Check.due("27 distance() of 8", x.distance(), -4);
        Check.due("27 winner() beyond the distance", x.winner(), 0);
        x.place(1);
        Check.due("27 distance() of a target", x.distance(), 0);
        PushdownGameSolver y = Check.configured("g4,1;o0;t3;r0,0,3;r0,0,1,0;r1,0,2,0;r2,0,3;r1,0,1,0;");
        Check.due("27 the opponent takes the longest way", y.distance(), 3);
        y.setOwner(0, 0);
        Check.due("27 the reacher takes the shortest way", y.distance(), 1);
        y.removeRule(0);
        Check.due("27 the reacher has the long way alone", y.distance(), 3);
        y.setOwner(1, 1);
        Check.due("27 the opponent stays for ever", y.distance(), -4);
        Check.placed(y, 3);
        y.setTarget(3, 0);
        Check.due("27 no stack and no target", y.distance(), -4);
        PushdownGameSolver z = Check.configured("g4,1;t3;r0,0,1,0,0;r1,0,2,0,0;r2,0,3,0,0;");
        Check.placed(z, 0, 0, 0, 0, 0, 0, 0, 0, 0, 0, 0, 0, 0);
        Check.due("27 distance() over a stack of 15", z.distance(), 3);
        Check.due("27 play(0) on 12 symbols", z.play(0), -3);
    }

    private static void promise27Search() {
        PushdownGameSolver x = Check.configured("g2,2;o0;t1;r0,0,0;r0,1,1;");
        Check.placed(x, 0, 0, 0, 0, 0, 0, 0, 1);
        Check.due("27 the opponent has to move seven times", x.distance(), 7);
        x.push(0);
        Check.due("27 the opponent has to move eight times", x.distance(), -4);
        PushdownGameSolver y = Check.configured("g4,1;o0;t3;r0,0,1,0;r0,0,3;r1,0,2,0;r2,0,3;");
        Check.due("27 the longest way is the first rule", y.distance(), 3);
        PushdownGameSolver z = Check.configured("g4,1;t3;r0,0,1,0;r0,0,2,0;r1,0,2,0;r2,0,3;");
        Check.due("27 the second way is shorter by one", z.distance(), 2);
        PushdownGameSolver w = Check.configured("g4,2;t3;r0,1,1;r0,1,0,0;r0,0,2,0;r2,0,3;r1,0,3;");
        Check.placed(w, 0, 1);
        Check.due("27 no rule is playable once the stack is empty", w.distance(), 3);
        PushdownGameSolver v = Check.configured("g3,2;o1;t2;r0,0,1,1;r0,0,0,1;r0,1,2;");
        Check.due("27 the opponent without rules is no way", v.distance(), 2);
        Check.due("28 the opponent without rules is no way", v.bestRule(), 1);
        PushdownGameSolver u = Check.configured("g3,1;o1;t2;r0,0,1,0;r0,0,0,0,0;r1,0,2;r1,0,0;");
        Check.placed(u, 0, 0, 0);
        Check.due("27 the opponent leads back down for ever", u.distance(), -4);
    }

    private static void promise28() {
        PushdownGameSolver x = Check.configured("g4,2;t3;r0,0,1,0;r0,0,2,0;r1,0,2,0;r2,0,3;r0,1,2,0;r0,1,2,0;");
        Check.due("28 the better rule is not the first", x.bestRule(), 1);
        Check.due("28 distance() before the better rule", x.distance(), 2);
        Check.placed(x, 0, 1);
        Check.due("28 the first of two that are alike", x.bestRule(), 4);
        Check.placed(x, 2, 0);
        Check.due("28 a rule to the target", x.bestRule(), 3);
        Check.placed(x, 2, 1);
        Check.due("28 no playable rule", x.bestRule(), -4);
        x.setOwner(2, 1);
        Check.due("28 a state of the opponent without rules", x.bestRule(), -2);
        PushdownGameSolver y = Check.configured(Check.DIG);
        Check.placed(y, 0, 0, 0, 0, 0, 0, 0, 0, 1);
        Check.due("28 distance() of 8", y.distance(), -4);
        Check.due("28 the distance after the rule is 7", y.bestRule(), 0);
        y.push(0);
        Check.due("28 the distance after the rule is 8", y.bestRule(), -4);
        PushdownGameSolver z = Check.configured("g3,1;t0;r0,0,1;r0,0,2,0;r0,0,0;r2,0,0;");
        Check.due("28 the present state is a target", z.bestRule(), 2);
        z.removeRule(2);
        Check.due("28 the target is left and reached again", z.bestRule(), 1);
        z.setOwner(0, 1);
        Check.due("28 a target of the opponent", z.bestRule(), -2);
        PushdownGameSolver w = Check.configured("g4,1;t3;r0,0,1,0,0;r1,0,2,0,0;r2,0,3,0,0;");
        Check.placed(w, 0, 0, 0, 0, 0, 0, 0, 0, 0, 0, 0, 0, 0);
        Check.due("28 over a stack of 15", w.bestRule(), 0);
        w.place(0);
        Check.due("28 with an empty stack", w.bestRule(), -4);
    }

    /** With 16 rules, and with a row of rules that was longer before, no rule behind the last one is looked at. */
    private static void fullRows() {
        for (int owner = 0; owner < 2; owner++) {
            PushdownGameSolver x = Check.configured(Check.sixteenRules());
            x.setOwner(3, owner);
            Check.placed(x, 3, 0);
            Check.due("24 playableRules() of 16 rules", x.playableRules(), 2);
            Check.due("25 winner() of 16 rules", x.winner(), 1);
            Check.due("27 distance() of 16 rules", x.distance(), -4);
            x.setTarget(0, 1);
            Check.due("27 distance() of 16 rules with a target", x.distance(), 1);
            Check.due("28 bestRule() of 16 rules", x.bestRule(), owner == 0 ? 3 : -2);
            Check.due("26 winningRound() of 16 rules", x.winningRound(), 1);
        }
        PushdownGameSolver z = Check.configured(Check.sixteenRules());
        z.removeRule(0);
        Check.due("6 addRule as the 16th again", z.addRule(0, 2, 2, -1, -1), 15);
        z.setTarget(2, 1);
        Check.placed(z, 3, 0, 2);
        Check.due("27 distance() over the 16th rule", z.distance(), 2);
        Check.due("28 bestRule() to the 16th rule", z.bestRule(), 2);
        PushdownGameSolver y = Check.configured("g3,1;t2;r1,0,1,0;r0,0,1;r0,0,2;");
        y.removeRule(2);
        Check.due("24 playableRules() after removeRule", y.playableRules(), 1);
        Check.due("25 winner() after removeRule", y.winner(), 1);
        Check.due("27 distance() after removeRule", y.distance(), -4);
        Check.due("28 bestRule() after removeRule", y.bestRule(), -4);
    }

    private static void promise29() {
        Check.due("29 rounds() of the initial game", new PushdownGameSolver().rounds(), 4);
        Check.due("29 rounds() of no rules", Check.configured("g2,2;").rounds(), 0);
        Check.due("29 rounds() of targets alone", Check.configured("g2,2;t0;t1;r0,0,1;").rounds(), 0);
        Check.due("29 rounds() of a loop", Check.configured("g1,1;r0,0,0,0;").rounds(), 0);
        Check.due("29 rounds() of a pop", Check.configured("g1,1;r0,0,0;").rounds(), 1);
        Check.due("29 rounds() of four states and no rules", Check.configured("g4,3;t0;").rounds(), 0);
        PushdownGameSolver x = Check.configured("g2,3;t1;r0,0,0,1;r0,1,0,2;r0,2,1;");
        Check.due("29 rounds() of a way of three", x.rounds(), 3);
        x.removeRule(2);
        Check.due("29 rounds() after removeRule", x.rounds(), 0);
        x.undo();
        Check.due("29 rounds() after undo", x.rounds(), 3);
        Check.due("29 rounds() of fourteen", Check.configured("g4,3;o2;r1,0,1,1,0;r0,0,0;r2,1,1,0;r1,2,0,0;"
                + "r2,0,1,0,2;r1,2,2;r0,0,1,2,1;r2,2,0;r2,2,0,2,0;r0,2,1;r2,2,1,2,2;r2,1,1,0,0;r1,2,2,1;"
                + "r0,1,0,0,1;r0,1,1,2,0;r1,1,0,0,1;t3;").rounds(), 14);
    }

    private static void promise30and31() {
        Check.due("31 forcingSet as the first call", new PushdownGameSolver().forcingSet(0, 0, 0), 1);
        Check.sets(Check.configured("g3,2;t2;r0,0,1,0,1;r1,0,2;"), 0, 0, 0);
        Check.sets(Check.configured("g3,2;r0,0,1,0,1;r1,0,2;"), 0, 0);
        Check.sets(Check.configured("g4,1;o0;r0,0,1;r0,0,2;"), 0, 0, 6);
        PushdownGameSolver x = Check.configured("g4,3;o1;o2;"
                + "r0,0,3;r0,0,0;r0,0,1,0;r1,0,1;r1,0,2;r2,0,0;r2,0,1;r2,0,3;r0,1,1,0,0;r3,0,2,0;r3,1,3,2;");
        Check.sets(x, 0, 0, 1, 6, 8);
        Check.sets(x, 1, 0, 6);
        Check.sets(x, 2, 0, 11);
        Check.sets(x, 0, 1, 15);
        Check.sets(x, 3, 0, 11);
        Check.sets(x, 3, 1);
        Check.sets(x, 3, 2);
        x.setTarget(1, 1);
        Check.sets(x, 0, 0, 0);
        Check.sets(x, 1, 0, 0);
        Check.sets(x, 1, 2, 0);
        Check.sets(x, 2, 0, 9);
        for (int n : NEVER) {
            Check.due("30 forcingSetCount(" + n + ", 0)", x.forcingSetCount(n, 0), -1);
            Check.due("30 forcingSetCount(0, " + n + ")", x.forcingSetCount(0, n), -1);
            Check.due("31 forcingSet(" + n + ", 0, 0)", x.forcingSet(n, 0, 0), -1);
            Check.due("31 forcingSet(0, " + n + ", 0)", x.forcingSet(0, n, 0), -1);
        }
        Check.due("30 forcingSetCount(4, 0)", x.forcingSetCount(4, 0), -1);
        Check.due("30 forcingSetCount(-1, 0)", x.forcingSetCount(-1, 0), -1);
        Check.due("30 forcingSetCount(0, 3)", x.forcingSetCount(0, 3), -1);
        Check.due("30 forcingSetCount(0, -1)", x.forcingSetCount(0, -1), -1);
        Check.due("31 forcingSet(4, 0, 0)", x.forcingSet(4, 0, 0), -1);
        Check.due("31 forcingSet(0, 3, 0)", x.forcingSet(0, 3, 0), -1);
        Check.due("31 forcingSet(0, 0, min)", x.forcingSet(0, 0, Integer.MIN_VALUE), -1);
        // three sets of which none contains another, and every two of which meet or not
        PushdownGameSolver y = Check.configured("g4,3;o1;o2;o3;r0,0,1,1;r0,0,2,1;r0,0,3,1;"
                + "r1,1,0;r1,1,1;r2,1,2;r2,1,3;r3,1,0;r3,1,3;");
        Check.sets(y, 0, 0, 3, 9, 12);
    }

    private static void promise32() {
        PushdownGameSolver x = Check.configured(Check.DIG);
        Check.due("32 winningStacks(0, 0)", x.winningStacks(0, 0), 0);
        Check.due("32 winningStacks(1, 0)", x.winningStacks(1, 0), 1);
        Check.due("32 winningStacks(0, 1)", x.winningStacks(0, 1), 1);
        Check.due("32 winningStacks(0, 3)", x.winningStacks(0, 3), 7);
        Check.due("32 winningStacks(0, 60)", x.winningStacks(0, 60), (1L << 60) - 1);
        Check.due("32 winningStacks(1, 60)", x.winningStacks(1, 60), 1L << 60);
        Check.due("32 winningStacks(0, 61)", x.winningStacks(0, 61), -1);
        Check.due("32 winningStacks(0, -1)", x.winningStacks(0, -1), -1);
        Check.due("32 winningStacks(2, 1)", x.winningStacks(2, 1), -1);
        Check.due("32 winningStacks(-1, 1)", x.winningStacks(-1, 1), -1);
        for (int n : NEVER) {
            Check.due("32 winningStacks(" + n + ", 1)", x.winningStacks(n, 1), -1);
            Check.due("32 winningStacks(0, " + n + ")", x.winningStacks(0, n), -1);
        }
        x.setTarget(1, 0);
        Check.due("32 winningStacks(0, 3) without a target", x.winningStacks(0, 3), 0);
        x.undo();
        Check.due("32 winningStacks(0, 3) after undo", x.winningStacks(0, 3), 7);
        Check.due("32 winningStacks(1, 0) after a longer count", x.winningStacks(1, 0), 1);
        PushdownGameSolver y = Check.configured("g2,3;t1;r0,0,0;r0,1,1;");
        Check.due("32 winningStacks(1, 39)", y.winningStacks(1, 39), 4052555153018976267L);
        Check.due("32 winningStacks(0, 39)", y.winningStacks(0, 39), 2026277576509488133L);
        Check.due("32 winningStacks(1, 40)", y.winningStacks(1, 40), -5);
        Check.due("32 winningStacks(0, 40)", y.winningStacks(0, 40), -5);
        Check.due("32 winningStacks(0, 60)", y.winningStacks(0, 60), -5);
        Check.due("32 winningStacks(2, 60)", y.winningStacks(2, 60), -1);
        Check.due("32 winningStacks(0, 61)", y.winningStacks(0, 61), -1);
        PushdownGameSolver z = Check.configured("g1,1;t0;");
        Check.due("32 winningStacks(0, 60) of one symbol", z.winningStacks(0, 60), 1);
        PushdownGameSolver v = Check.configured("g4,3;t0;t1;t2;t3;");
        Check.due("32 winningStacks(3, 39) of four targets", v.winningStacks(3, 39), 4052555153018976267L);
        PushdownGameSolver w = Check.configured("g3,2;o1;t2;r0,0,1;r1,0,0;r1,0,1;r0,1,2;r1,1,2,1;");
        Check.due("32 both states must win below", w.winningStacks(0, 2), 3);
        Check.due("32 the opponent may stay or not", w.winningStacks(1, 5), 31);
    }

    private static void errorsChangeNothing() {
        PushdownGameSolver x = new PushdownGameSolver();
        x.append(0);
        x.configure();
        x.addRule(3, 0, 0, 0, 0);
        x.addRule(0, 0, 0, -1, 0);
        x.removeRule(6);
        x.setOwner(0, 2);
        x.setTarget(0, 2);
        x.place(3);
        x.push(2);
        x.play(2);
        x.play(9);
        x.undo();
        Check.due("an error changes no text", x.clearText(), 0);
        Check.due("an error changes no rule", x.ruleCount(), 6);
        Check.rule(x, 0, 0, 0, 1, 0, 1);
        Check.configuration(x, 0, 0);
        Check.due("an error changes no owner", x.ownerOf(0), 0);
        Check.due("an error changes no target", x.isTarget(0), 0);
        Check.due("an error is no change", x.undo(), -2);
        Check.due("an error changes no round", x.rounds(), 4);
    }
}
