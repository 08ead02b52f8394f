import java.util.function.ToLongBiFunction;

/** The boundaries of the calls that look at rules, states and the present configuration: promises 14 to 24. */
public final class BoundaryLookTest {
    private BoundaryLookTest() {
    }

    public static void main(String[] args) throws ReflectiveOperationException {
        Boundaries.run(BoundaryLookTest.class);
    }

    private static PushdownGameSolver sixteen() {
        return Check.configured(Check.sixteenRules());
    }

    /** The first and the last rule have the first and the last numbers of everything. */
    private static PushdownGameSolver threeRules() {
        return Check.configured("g4,3;r0,0,3,2,0;r1,1,1,1;r3,2,0;");
    }

    /** Asks for existing numbers before the refused ones, and holds that the refused ones change nothing. */
    private static void ruleNumbers(String call, ToLongBiFunction<PushdownGameSolver, Integer> made, int... due) {
        for (int rule = 0; rule < 3; rule++) {
            Check.due(call + "(" + rule + ")", made.applyAsLong(threeRules(), rule), due[rule]);
        }
        outOfRange(call, made, 2);
    }

    private static void outOfRange(String call, ToLongBiFunction<PushdownGameSolver, Integer> made, int last) {
        for (int n : Check.outside(0, last)) {
            Check.due(call + "(" + n + ")", made.applyAsLong(threeRules(), n), -1);
        }
    }

    private static void noSuchRule(String call, ToLongBiFunction<PushdownGameSolver, Integer> made) {
        Refused.due(call + "(-1)", x -> made.applyAsLong(x, -1), -1);
        Refused.due(call + "(4) of 4 rules", x -> made.applyAsLong(x, 4), -1);
        Refused.due(call + "(16) of 16 rules", BoundaryLookTest::sixteen, x -> made.applyAsLong(x, 16), -1);
        Refused.due(call + "(0) of no rules", () -> Check.configured("g4,3;"), x -> made.applyAsLong(x, 0), -1);
        PushdownGameSolver x = sixteen();
        Check.holds(call + "(15) of 16 rules", made.applyAsLong(x, 15) != -1);
        x.removeRule(0);
        Check.due(call + "(15) of a removed rule", made.applyAsLong(x, 15), -1);
        Check.holds(call + "(14) of 15 rules", made.applyAsLong(x, 14) != -1);
        x.undo();
        Check.holds(call + "(15) after undo()", made.applyAsLong(x, 15) != -1);
    }

    private static void noSuchState(String call, ToLongBiFunction<PushdownGameSolver, Integer> made) {
        Refused.due(call + "(-1)", x -> made.applyAsLong(x, -1), -1);
        Refused.due(call + "(4)", x -> made.applyAsLong(x, 4), -1);
        Refused.due(call + "(3) of 3 states", PushdownGameSolver::new, x -> made.applyAsLong(x, 3), -1);
        Refused.due(call + "(1) of one state", () -> Check.configured("g1,1;"), x -> made.applyAsLong(x, 1), -1);
        Check.holds(call + "(2) of 3 states", made.applyAsLong(new PushdownGameSolver(), 2) >= 0);
        Check.holds(call + "(0) of one state", made.applyAsLong(Check.configured("g1,1;"), 0) >= 0);
    }

    @Boundary(promise = 14, sentence = "Returns the number of rules.")
    static void numberOfRules() {
        Check.due("ruleCount() of none", Check.configured("g1,1;").ruleCount(), 0);
        PushdownGameSolver x = sixteen();
        Check.due("ruleCount() of 16", x.ruleCount(), 16);
        x.addRule(3, 2, 0, -1, -1);
        Check.due("ruleCount() after a refused addRule", x.ruleCount(), 16);
        x.removeRule(16);
        Check.due("ruleCount() after a refused removeRule", x.ruleCount(), 16);
        x.removeRule(15);
        Check.due("ruleCount() after removeRule", x.ruleCount(), 15);
    }

    @Boundary(promise = 15, sentence = "`rule`: number of an existing rule")
    static void ruleOfState() {
        ruleNumbers("ruleState", PushdownGameSolver::ruleState, 0, 1, 3);
    }

    @Boundary(promise = 15, sentence = "INVALID_ARGUMENT if there is no such rule")
    static void noRuleOfState() {
        noSuchRule("ruleState", PushdownGameSolver::ruleState);
    }

    @Boundary(promise = 16, sentence = "`rule`: number of an existing rule")
    static void ruleOfTop() {
        ruleNumbers("ruleTop", PushdownGameSolver::ruleTop, 0, 1, 2);
    }

    @Boundary(promise = 16, sentence = "INVALID_ARGUMENT if there is no such rule")
    static void noRuleOfTop() {
        noSuchRule("ruleTop", PushdownGameSolver::ruleTop);
    }

    @Boundary(promise = 17, sentence = "`rule`: number of an existing rule")
    static void ruleOfNext() {
        ruleNumbers("ruleNext", PushdownGameSolver::ruleNext, 3, 1, 0);
    }

    @Boundary(promise = 17, sentence = "INVALID_ARGUMENT if there is no such rule")
    static void noRuleOfNext() {
        noSuchRule("ruleNext", PushdownGameSolver::ruleNext);
    }

    @Boundary(promise = 18, sentence = "`rule`: number of an existing rule")
    static void ruleOfSymbol() {
        ruleNumbers("ruleSymbol upper", (x, rule) -> x.ruleSymbol(rule, 0), 2, 1, -4);
        ruleNumbers("ruleSymbol lower", (x, rule) -> x.ruleSymbol(rule, 1), 0, -4, -4);
    }

    @Boundary(promise = 18, sentence = "`index`: 0 for the upper symbol, 1 for the lower symbol")
    static void indexOfSymbol() {
        for (int rule = 0; rule < 3; rule++) {
            for (int index : Check.outside(0, 1)) {
                Check.due("ruleSymbol(" + rule + ", " + index + ")", threeRules().ruleSymbol(rule, index), -1);
            }
        }
        Check.due("ruleSymbol(0, 0)", threeRules().ruleSymbol(0, 0), 2);
        Check.due("ruleSymbol(0, 1)", threeRules().ruleSymbol(0, 1), 0);
    }

    @Boundary(promise = 18, sentence = "INVALID_ARGUMENT if there is no such rule or index is out of range")
    static void noRuleOrIndex() {
        noSuchRule("ruleSymbol upper", (x, rule) -> x.ruleSymbol(rule, 0));
        noSuchRule("ruleSymbol lower", (x, rule) -> x.ruleSymbol(rule, 1));
        Refused.due("ruleSymbol(0, 2)", x -> x.ruleSymbol(0, 2), -1);
        Refused.due("ruleSymbol(0, -1)", x -> x.ruleSymbol(0, -1), -1);
        Refused.due("ruleSymbol(4, 2)", x -> x.ruleSymbol(4, 2), -1);
    }

    @Boundary(promise = 18, sentence = "NOT_FOUND if the pushed word has no such symbol")
    static void noSuchSymbolOfWord() {
        Refused.due("ruleSymbol(1, 1) of one symbol", BoundaryLookTest::threeRules, x -> x.ruleSymbol(1, 1), -4);
        Refused.due("ruleSymbol(2, 0) of no symbol", BoundaryLookTest::threeRules, x -> x.ruleSymbol(2, 0), -4);
        Refused.due("ruleSymbol(2, 1) of no symbol", BoundaryLookTest::threeRules, x -> x.ruleSymbol(2, 1), -4);
        Check.due("ruleSymbol(1, 0) of one symbol", threeRules().ruleSymbol(1, 0), 1);
        Check.due("ruleSymbol(0, 1) of two symbols", threeRules().ruleSymbol(0, 1), 0);
    }

    @Boundary(promise = 19, sentence = "`state`: an existing state")
    static void stateOfOwner() {
        PushdownGameSolver x = Check.configured("g4,1;o0;o3;");
        for (int state = 0; state < 4; state++) {
            Check.due("ownerOf(" + state + ")", x.ownerOf(state), state % 3 == 0 ? 1 : 0);
        }
        outOfRange("ownerOf", PushdownGameSolver::ownerOf, 3);
    }

    @Boundary(promise = 19, sentence = "INVALID_ARGUMENT if there is no such state")
    static void noStateOfOwner() {
        noSuchState("ownerOf", PushdownGameSolver::ownerOf);
    }

    @Boundary(promise = 20, sentence = "`state`: an existing state")
    static void stateOfTarget() {
        PushdownGameSolver x = Check.configured("g4,1;t0;t3;");
        for (int state = 0; state < 4; state++) {
            Check.due("isTarget(" + state + ")", x.isTarget(state), state % 3 == 0 ? 1 : 0);
        }
        outOfRange("isTarget", PushdownGameSolver::isTarget, 3);
    }

    @Boundary(promise = 20, sentence = "Returns 1 if it is a target, else 0")
    static void targetOrElse() {
        PushdownGameSolver x = Check.configured("g4,1;");
        for (int state = 0; state < 4; state++) {
            Check.due("isTarget(" + state + ") of none", x.isTarget(state), 0);
            x.setTarget(state, 1);
            Check.due("isTarget(" + state + ") of one", x.isTarget(state), 1);
        }
        x.setTarget(0, 0);
        for (int state = 0; state < 4; state++) {
            Check.due("isTarget(" + state + ")", x.isTarget(state), state == 0 ? 0 : 1);
        }
    }

    @Boundary(promise = 20, sentence = "INVALID_ARGUMENT if there is no such state")
    static void noStateOfTarget() {
        noSuchState("isTarget", PushdownGameSolver::isTarget);
    }

    @Boundary(promise = 21, sentence = "Returns the state of the present configuration.")
    static void stateAtPresent() {
        PushdownGameSolver x = Check.configured("g4,3;r3,0,0;");
        Check.due("presentState() after configure()", x.presentState(), 0);
        x.place(3);
        Check.due("presentState() of the last state", x.presentState(), 3);
        x.place(4);
        Check.due("presentState() after a refused place", x.presentState(), 3);
        x.play(0);
        Check.due("presentState() after a refused play", x.presentState(), 3);
        x.push(0);
        x.play(0);
        Check.due("presentState() after play", x.presentState(), 0);
        x.undo();
        Check.due("presentState() after undo()", x.presentState(), 3);
    }

    @Boundary(promise = 22, sentence = "Returns the number of symbols of the stack of the present configuration.")
    static void sizeOfStack() {
        PushdownGameSolver x = Check.configured("g4,3;r0,0,0;r0,0,0,0,0;");
        Check.due("stackSize() after configure()", x.stackSize(), 1);
        x.play(0);
        Check.due("stackSize() of an emptied stack", x.stackSize(), 0);
        for (int size = 1; size <= 12; size++) {
            x.push(0);
            Check.due("stackSize()", x.stackSize(), size);
        }
        x.push(0);
        Check.due("stackSize() after a refused push", x.stackSize(), 12);
        x.play(1);
        Check.due("stackSize() after a refused play", x.stackSize(), 12);
        x.play(0);
        Check.due("stackSize() after a popping play", x.stackSize(), 11);
        x.play(1);
        Check.due("stackSize() after a pushing play", x.stackSize(), 12);
    }

    @Boundary(promise = 23, sentence = "`depth`: 0 for the top symbol, 1 for the symbol below it, and so on")
    static void depthOfSymbol() {
        PushdownGameSolver x = Check.configured("g4,3;");
        int[] stack = {2, 0, 1, 1, 0, 2, 2, 1, 0, 0, 1, 2};
        Check.placed(x, 0, stack);
        Check.due("stackSymbol(0) of 12", x.stackSymbol(0), 2);
        Check.due("stackSymbol(1) of 12", x.stackSymbol(1), 0);
        Check.due("stackSymbol(11) of 12", x.stackSymbol(11), 2);
        for (int depth : Check.outside(0, 11)) {
            Check.due("stackSymbol(" + depth + ") of 12", x.stackSymbol(depth), -1);
        }
    }

    @Boundary(promise = 23, sentence = "INVALID_ARGUMENT if there is no such symbol")
    static void noSuchDepth() {
        Refused.due("stackSymbol(3) of 3", x -> x.stackSymbol(3), -1);
        Refused.due("stackSymbol(-1) of 3", x -> x.stackSymbol(-1), -1);
        PushdownGameSolver x = Check.configured("g4,3;");
        Check.placed(x, 0, 2, 2, 2, 2);
        for (int size = 3; size >= 0; size--) {
            x.undo();
            Check.due("stackSymbol behind the bottom of " + size, x.stackSymbol(size), -1);
            Check.due("stackSymbol of the bottom of " + size, x.stackSymbol(size - 1), size == 0 ? -1 : 2);
        }
        Refused.due("stackSymbol(0) of an empty stack", BoundaryLookTest::emptied, y -> y.stackSymbol(0), -1);
    }

    private static PushdownGameSolver emptied() {
        PushdownGameSolver x = threeRules();
        x.place(2);
        return x;
    }

    @Boundary(promise = 24, sentence = "Returns the number of rules that are playable in the present configuration.")
    static void numberOfPlayable() {
        PushdownGameSolver x = Check.configured("g2,2;r0,1,0;r1,0,0;r1,1,0;");
        Check.due("playableRules() of none", x.playableRules(), 0);
        for (int count = 1; count <= 3; count++) {
            x.addRule(0, 0, 1, 1, 1);
            Check.due("playableRules()", x.playableRules(), count);
        }
        x.addRule(0, 0, 1, 1, 1);
        Check.due("playableRules() after a refused addRule", x.playableRules(), 3);
        x.removeRule(0);
        x.removeRule(4);
        Check.due("playableRules() after removeRule", x.playableRules(), 2);
        x.place(0);
        Check.due("playableRules() with an empty stack", x.playableRules(), 0);
        Check.placed(x, 0, 0, 0, 0, 0, 0, 0, 0, 0, 0, 0, 0, 0);
        Check.due("playableRules() whose stack would be too high", x.playableRules(), 2);
        x.setTarget(0, 1);
        Check.due("playableRules() in a target", x.playableRules(), 2);
    }
}
