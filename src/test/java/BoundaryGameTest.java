/** The boundaries that the description names for error codes, games, configurations and winning. */
public final class BoundaryGameTest {
    private BoundaryGameTest() {
    }

    public static void main(String[] args) throws ReflectiveOperationException {
        Boundaries.run(BoundaryGameTest.class);
    }

    private static PushdownGameSolver sixteen() {
        return Check.configured(Check.sixteenRules());
    }

    /** A solver with a stack of twelve zeros in state 0, and rules that push two symbols. */
    private static PushdownGameSolver twelve() {
        PushdownGameSolver x = Check.configured("g2,2;o1;r0,0,1,1,0;r1,0,0,1,0;r0,1,0,1,0;");
        Check.placed(x, 0, 0, 0, 0, 0, 0, 0, 0, 0, 0, 0, 0, 0);
        return x;
    }

    @Boundary(promise = 0, sentence = "An object is used for at most 512 calls after it has been made")
    static void the512thCall() {
        String text = "g2,1;t1;r0,0,0,0;r0,0,1;";
        PushdownGameSolver x = Check.configured(text);
        int madeToConfigure = 1 + text.length() + 1;
        for (int call = madeToConfigure + 1; call <= 504; call++) {
            Check.due("play(0) as call " + call, x.play(0), 0);
        }
        for (int left = 5; left >= 0; left--) {
            Check.due("undo() near the end", x.undo(), left);
        }
        Check.due("undo() as the 511th call", x.undo(), -2);
        Check.due("winner() as the 512th call", x.winner(), 0);
    }

    @Boundary(promise = 0, sentence = "When several error codes apply to a call, the first one named at that method's"
            + " return value is returned.")
    static void severalCodesOfAppend() {
        PushdownGameSolver x = new PushdownGameSolver();
        for (int i = 0; i < 200; i++) {
            x.append('x');
        }
        Check.due("append(127) to a full text", x.append(127), -1);
        Check.due("append(126) to a full text", x.append(126), -3);
    }

    @Boundary(promise = 0, sentence = "When several error codes apply to a call, the first one named at that method's"
            + " return value is returned.")
    static void severalCodesOfAddRule() {
        PushdownGameSolver x = sixteen();
        Check.due("a wrong 17th rule", x.addRule(3, 2, 4, -1, -1), -1);
        Check.due("a wrong word of a 17th rule", x.addRule(3, 2, 0, -1, 0), -1);
        Check.due("a 17th rule", x.addRule(3, 2, 0, -1, -1), -3);
        PushdownGameSolver y = Check.configured("g1,1;r0,0,0;r0,0,0;r0,0,0;");
        Check.due("a wrong fourth rule", y.addRule(0, 0, 0, 0, 1), -1);
        Check.due("a fourth rule", y.addRule(0, 0, 0, 0, 0), -3);
    }

    @Boundary(promise = 0, sentence = "When several error codes apply to a call, the first one named at that method's"
            + " return value is returned.")
    static void severalCodesOfPush() {
        PushdownGameSolver x = twelve();
        Check.due("push(2) on a full stack", x.push(2), -1);
        Check.due("push(-1) on a full stack", x.push(-1), -1);
        Check.due("push(1) on a full stack", x.push(1), -3);
    }

    @Boundary(promise = 0, sentence = "When several error codes apply to a call, the first one named at that method's"
            + " return value is returned.")
    static void severalCodesOfPlay() {
        PushdownGameSolver x = twelve();
        Check.due("play(3) on a full stack", x.play(3), -1);
        Check.due("play(1) of another state on a full stack", x.play(1), -2);
        Check.due("play(2) of another top on a full stack", x.play(2), -2);
        Check.due("play(0) on a full stack", x.play(0), -3);
    }

    @Boundary(promise = 0, sentence = "When several error codes apply to a call, the first one named at that method's"
            + " return value is returned.")
    static void severalCodesOfRuleSymbol() {
        PushdownGameSolver x = Check.configured("g1,1;r0,0,0;");
        Check.due("ruleSymbol(0, 2) of no word", x.ruleSymbol(0, 2), -1);
        Check.due("ruleSymbol(1, 0) of no rule", x.ruleSymbol(1, 0), -1);
        Check.due("ruleSymbol(0, 1) of no word", x.ruleSymbol(0, 1), -4);
    }

    @Boundary(promise = 0, sentence = "When several error codes apply to a call, the first one named at that method's"
            + " return value is returned.")
    static void severalCodesOfBestRule() {
        PushdownGameSolver x = Check.configured("g1,1;o0;");
        Check.due("bestRule() of the opponent without rules", x.bestRule(), -2);
        x.setOwner(0, 0);
        Check.due("bestRule() of the reacher without rules", x.bestRule(), -4);
    }

    @Boundary(promise = 0, sentence = "When several error codes apply to a call, the first one named at that method's"
            + " return value is returned.")
    static void severalCodesOfForcingSet() {
        PushdownGameSolver x = Check.configured("g1,1;");
        Check.due("forcingSet(0, 0, -1) of no sets", x.forcingSet(0, 0, -1), -1);
        Check.due("forcingSet(1, 0, 0) of no state", x.forcingSet(1, 0, 0), -1);
        Check.due("forcingSet(0, 1, 0) of no symbol", x.forcingSet(0, 1, 0), -1);
        Check.due("forcingSet(0, 0, 0) of no sets", x.forcingSet(0, 0, 0), -4);
    }

    @Boundary(promise = 0, sentence = "When several error codes apply to a call, the first one named at that method's"
            + " return value is returned.")
    static void severalCodesOfWinningStacks() {
        PushdownGameSolver x = Check.configured("g1,3;t0;");
        Check.due("winningStacks(0, 61) beyond a long", x.winningStacks(0, 61), -1);
        Check.due("winningStacks(1, 60) beyond a long", x.winningStacks(1, 60), -1);
        Check.due("winningStacks(0, 60) beyond a long", x.winningStacks(0, 60), -5);
    }

    @Boundary(promise = 0, sentence = "A call that returns an error code changes nothing.")
    static void everyCodeOfChanges() {
        Refused.due("append(127)", x -> x.append(127), -1);
        Refused.due("addRule(4, 0, 0, 0, 0)", x -> x.addRule(4, 0, 0, 0, 0), -1);
        Refused.due("addRule beyond 16", BoundaryGameTest::sixteen, x -> x.addRule(3, 2, 0, 0, 0), -3);
        Refused.due("removeRule(4)", x -> x.removeRule(4), -1);
        Refused.due("setOwner(0, 2)", x -> x.setOwner(0, 2), -1);
        Refused.due("setTarget(0, 2)", x -> x.setTarget(0, 2), -1);
        Refused.due("place(4)", x -> x.place(4), -1);
        Refused.due("push(3)", x -> x.push(3), -1);
        Refused.due("push on 12", BoundaryGameTest::twelve, x -> x.push(1), -3);
        Refused.due("play(4)", x -> x.play(4), -1);
        Refused.due("play(0)", x -> x.play(0), -2);
        Refused.due("play(0) on 12", BoundaryGameTest::twelve, x -> x.play(0), -3);
        Refused.due("undo() of nothing", PushdownGameSolver::new, PushdownGameSolver::undo, -2);
        Refused.due("configure() of nothing", PushdownGameSolver::new, PushdownGameSolver::configure, -2);
    }

    @Boundary(promise = 0, sentence = "A call that returns an error code changes nothing.")
    static void everyCodeOfQuestions() {
        Refused.due("firstError()", PushdownGameSolver::firstError, -4);
        Refused.due("ruleState(4)", x -> x.ruleState(4), -1);
        Refused.due("ruleTop(4)", x -> x.ruleTop(4), -1);
        Refused.due("ruleNext(4)", x -> x.ruleNext(4), -1);
        Refused.due("ruleSymbol(4, 0)", x -> x.ruleSymbol(4, 0), -1);
        Refused.due("ruleSymbol(1, 1)", x -> x.ruleSymbol(1, 1), -4);
        Refused.due("ownerOf(4)", x -> x.ownerOf(4), -1);
        Refused.due("isTarget(4)", x -> x.isTarget(4), -1);
        Refused.due("stackSymbol(12)", x -> x.stackSymbol(12), -1);
        Refused.due("winningRound()", PushdownGameSolver::new, PushdownGameSolver::winningRound, -4);
        Refused.due("distance()", PushdownGameSolver::new, PushdownGameSolver::distance, -4);
        Refused.due("bestRule()", PushdownGameSolver::new, PushdownGameSolver::bestRule, -4);
        Refused.due("bestRule() of the opponent", PushdownGameSolver::bestRule, -2);
        Refused.due("forcingSetCount(4, 0)", x -> x.forcingSetCount(4, 0), -1);
        Refused.due("forcingSet(4, 0, 0)", x -> x.forcingSet(4, 0, 0), -1);
        Refused.due("forcingSet(0, 0, 16)", x -> x.forcingSet(0, 0, 16), -4);
        Refused.due("winningStacks(4, 0)", x -> x.winningStacks(4, 0), -1);
        Refused.due("winningStacks(0, 60)", x -> x.winningStacks(0, 60), -5);
    }

    @Boundary(promise = 0, sentence = "A game has 1 to 4 states, numbered from 0, and 1 to 3 stack symbols, numbered"
            + " from 0.")
    static void statesAndSymbols() {
        for (int states = 1; states <= 4; states++) {
            for (int symbols = 1; symbols <= 3; symbols++) {
                PushdownGameSolver x = Check.configured("g" + states + "," + symbols + ";");
                for (int n = -1; n <= 5; n++) {
                    Check.due("ownerOf(" + n + ")", x.ownerOf(n), n >= 0 && n < states ? 0 : -1);
                    Check.due("forcingSetCount(0, " + n + ")", x.forcingSetCount(0, n), n >= 0 && n < symbols ? 0 : -1);
                }
            }
        }
        for (String text : new String[] {"g0,1;", "g5,1;", "g1,0;", "g1,4;"}) {
            PushdownGameSolver x = new PushdownGameSolver();
            Check.type(x, text);
            Check.due("configure() of " + text, x.configure(), -2);
        }
    }

    @Boundary(promise = 0, sentence = "A rule has a state, a top symbol, a next state, and a pushed word of no, one or"
            + " two symbols; the first symbol of the word is the upper one, the second the lower one.")
    static void wordsOfRules() {
        PushdownGameSolver x = Check.configured("g2,3;r0,0,1;r0,0,1,2;r0,0,1,2,1;");
        Check.rule(x, 0, 0, 0, 1);
        Check.rule(x, 1, 0, 0, 1, 2);
        Check.rule(x, 2, 0, 0, 1, 2, 1);
        Check.type(x, "g2,3;r0,0,1,2,1,0;");
        Check.due("configure() of a word of three", x.configure(), -2);
        Check.due("a lower symbol without an upper one", x.addRule(1, 0, 1, -1, 0), -1);
    }

    @Boundary(promise = 0, sentence = "A game has at most 16 rules, numbered from 0, of which at most 3 have the same"
            + " state and the same top symbol.")
    static void rulesOfGame() {
        PushdownGameSolver x = Check.configured("g4,3;");
        Check.due("ruleState(0) of no rules", x.ruleState(0), -1);
        for (int i = 0; i < 15; i++) {
            Check.due("addRule " + i, x.addRule(i / 3 % 4, i / 12, 0, -1, -1), i);
        }
        for (int i = 0; i < 5; i++) {
            int state = i % 4;
            int top = i / 4;
            Check.due("a fourth rule of " + state + ", " + top, x.addRule(state, top, 1, 0, 0), -3);
        }
        Check.due("the 16th rule", x.addRule(1, 1, 0, -1, -1), 15);
        Check.due("a 17th rule, second of its pair", x.addRule(1, 1, 0, -1, -1), -3);
        Check.due("a 17th rule, first of its pair", x.addRule(3, 2, 0, -1, -1), -3);
        Check.due("ruleCount()", x.ruleCount(), 16);
        Check.due("ruleState(15)", x.ruleState(15), 1);
        Check.due("ruleState(16)", x.ruleState(16), -1);
        Check.due("removeRule(0)", x.removeRule(0), 15);
        Check.due("a third rule of its pair again", x.addRule(0, 0, 1, 1, 1), 15);
    }

    @Boundary(promise = 0, sentence = "A rule is playable in a configuration if its state is the state of the"
            + " configuration and its top symbol is the top symbol of the stack.")
    static void playableRule() {
        PushdownGameSolver x = Check.configured("g2,2;r0,0,1,1,1;r0,1,1;r1,0,1;r1,1,0;");
        for (int state = 0; state < 2; state++) {
            for (int top = 0; top < 2; top++) {
                for (int rule = 0; rule < 4; rule++) {
                    Check.placed(x, state, top, 1 - top);
                    boolean playable = x.ruleState(rule) == state && x.ruleTop(rule) == top;
                    Check.due("playableRules()", x.playableRules(), 1);
                    Check.due("play(" + rule + ") with " + state + ", " + top, x.play(rule), playable
                            ? x.ruleNext(rule) : -2);
                }
            }
            x.place(state);
            Check.due("playableRules() with an empty stack", x.playableRules(), 0);
            for (int rule = 0; rule < 4; rule++) {
                Check.due("play(" + rule + ") with an empty stack", x.play(rule), -2);
            }
        }
    }

    @Boundary(promise = 0, sentence = "Playing it replaces the top symbol by the pushed word (the lower symbol is"
            + " pushed first, then the upper one) and the state by the next state.")
    static void playedWords() {
        PushdownGameSolver x = Check.configured("g3,3;r0,0,1;r0,1,2,0;r0,2,1,0,1;");
        Check.placed(x, 0, 0);
        Check.due("play(0) of the last symbol", x.play(0), 1);
        Check.configuration(x, 1);
        Check.placed(x, 0, 0, 2);
        Check.due("play(0) of the last symbol but one", x.play(0), 1);
        Check.configuration(x, 1, 2);
        Check.placed(x, 0, 1);
        Check.due("play(1)", x.play(1), 2);
        Check.configuration(x, 2, 0);
        Check.placed(x, 0, 2, 2, 2, 2, 2, 2, 2, 2, 2, 2, 2);
        Check.due("play(2) up to 12 symbols", x.play(2), 1);
        Check.configuration(x, 1, 0, 1, 2, 2, 2, 2, 2, 2, 2, 2, 2, 2);
        Check.placed(x, 0, 1, 2, 2, 2, 2, 2, 2, 2, 2, 2, 2, 2);
        Check.due("play(1) on 12 symbols", x.play(1), 2);
        Check.configuration(x, 2, 0, 2, 2, 2, 2, 2, 2, 2, 2, 2, 2, 2);
    }

    @Boundary(promise = 0, sentence = "The player to whom the state of a configuration belongs chooses among the"
            + " playable rules.")
    static void whoChooses() {
        PushdownGameSolver x = Check.configured("g3,1;t1;r0,0,1;r0,0,2;");
        Check.due("the reacher chooses the target", x.winner(), 0);
        x.setOwner(0, 1);
        Check.due("the opponent chooses the other state", x.winner(), 1);
        x.removeRule(1);
        Check.due("the opponent has no choice", x.winner(), 0);
    }

    @Boundary(promise = 0, sentence = "The reacher wins a configuration if the reacher can force that a configuration"
            + " with a target state is reached after finitely many moves, however the opponent plays; the"
            + " configuration itself counts as reached.")
    static void reachedAfterFinitelyManyMoves() {
        PushdownGameSolver x = Check.configured("g3,2;o1;t2;r0,0,1,0;r1,0,0,1;r1,0,2;r0,1,2;");
        Check.due("every way of the opponent ends in a target", x.winner(), 0);
        x.addRule(1, 0, 1, 0, -1);
        Check.due("the opponent can stay for ever", x.winner(), 1);
        x.undo();
        x.place(2);
        Check.due("a target with an empty stack", x.winner(), 0);
        x.setTarget(2, 0);
        Check.due("no target with an empty stack", x.winner(), 1);
        Check.due("a game that goes on for ever", Check.configured("g1,1;r0,0,0,0,0;").winner(), 1);
    }

    @Boundary(promise = 0, sentence = "Otherwise the opponent wins it; in particular, the opponent wins a configuration"
            + " without playable rules whose state is not a target, whoever would have to move.")
    static void noPlayableRule() {
        for (int owner = 0; owner < 2; owner++) {
            PushdownGameSolver x = Check.configured("g2,2;t1;r0,1,1;");
            x.setOwner(0, owner);
            Check.due("no rule for the top, owner " + owner, x.winner(), 1);
            x.place(0);
            Check.due("an empty stack, owner " + owner, x.winner(), 1);
            x.setTarget(0, 1);
            Check.due("an empty stack in a target, owner " + owner, x.winner(), 0);
            x.push(0);
            Check.due("no rule for the top in a target, owner " + owner, x.winner(), 0);
            x.setTarget(0, 0);
            x.push(1);
            Check.due("a rule for the top, owner " + owner, x.winner(), 0);
            PushdownGameSolver y = Check.configured("g2,1;t1;r0,0,1;");
            y.setOwner(0, owner);
            Check.due("a rule for symbol 0, owner " + owner, y.winner(), 0);
            y.place(0);
            Check.due("a rule for symbol 0 and an empty stack, owner " + owner, y.winner(), 1);
        }
    }
}
