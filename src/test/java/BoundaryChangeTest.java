import java.util.function.IntToLongFunction;

/** The boundaries of changes and of undoing them: what the description says of them, and promises 6 to 13. */
public final class BoundaryChangeTest {
    private static final String[] CHANGES = {"addRule", "removeRule", "setOwner", "setTarget", "place", "push", "play"};

    private BoundaryChangeTest() {
    }

    public static void main(String[] args) throws ReflectiveOperationException {
        Boundaries.run(BoundaryChangeTest.class);
    }

    /** 4 states and 3 symbols, the most there are, and no rule. */
    private static PushdownGameSolver widest() {
        return Check.configured("g4,3;");
    }

    private static PushdownGameSolver smallest() {
        return Check.configured("g1,1;");
    }

    private static PushdownGameSolver withStackOf(int size) {
        PushdownGameSolver x = Check.configured("g2,3;r0,0,1;r0,0,1,2;r0,0,1,2,1;r1,0,0,2,1;r0,1,0,2,1;");
        x.place(0);
        for (int i = 0; i < size; i++) {
            x.push(i == size - 1 ? 0 : 2);
        }
        return x;
    }

    private static PushdownGameSolver sixteen() {
        return Check.configured(Check.sixteenRules());
    }

    /** One change of each kind that succeeds, whatever succeeded before. */
    private static int change(PushdownGameSolver x, String kind) {
        return switch (kind) {
            case "addRule" -> x.addRule(0, 1, 1, 1, 0);
            case "removeRule" -> x.removeRule(x.ruleCount() - 1);
            case "setOwner" -> x.setOwner(1, 1 - x.ownerOf(1));
            case "setTarget" -> x.setTarget(1, 1 - x.isTarget(1));
            case "place" -> x.place(1 - x.presentState());
            case "push" -> x.push(0);
            default -> x.play(0);
        };
    }

    private static void refusedFor(String call, int[] arguments, IntToLongFunction made) {
        for (int argument : arguments) {
            Check.due(call + " " + argument, made.applyAsLong(argument), -1);
        }
    }

    @Boundary(promise = 0, sentence = "The solver has a present configuration, whose stack has at most 12 symbols.")
    static void stackOf12() {
        PushdownGameSolver x = withStackOf(11);
        Check.due("play(2) on 11 symbols", x.play(2), 1);
        Check.due("stackSize() after it", x.stackSize(), 12);
        Check.due("push on 12 symbols", x.push(0), -3);
        PushdownGameSolver y = withStackOf(12);
        Check.due("play(2) on 12 symbols", y.play(2), -3);
        Check.due("push on 12 symbols", y.push(0), -3);
        Check.due("stackSize() after both", y.stackSize(), 12);
        Check.due("play(1) on 12 symbols", y.play(1), 1);
        Check.due("stackSize() after play(1)", y.stackSize(), 12);
    }

    @Boundary(promise = 0, sentence = "After configure it has state 0 and the stack that consists of symbol 0.")
    static void configurationAfterConfigure() {
        PushdownGameSolver x = widest();
        Check.configuration(x, 0, 0);
        Check.placed(x, 3, 2, 2, 2, 2, 2, 2, 2, 2, 2, 2, 2, 2);
        x.configure();
        Check.configuration(x, 0, 0);
        x.place(3);
        x.configure();
        Check.configuration(x, 0, 0);
    }

    @Boundary(promise = 0, sentence = "Every successful call of addRule, removeRule, setOwner, setTarget, place, push"
            + " and play is a change, also if it leaves everything as it was.")
    static void everyChange() {
        for (String kind : CHANGES) {
            PushdownGameSolver x = Check.configured("g2,2;t1;r0,0,0,0;r0,0,1,1;");
            Check.holds(kind + " succeeds", change(x, kind) >= 0);
            Check.due("undo() of " + kind, x.undo(), 0);
            Check.due("undo() of no more", x.undo(), -2);
            Check.due("ruleCount() after undo()", x.ruleCount(), 2);
            Check.due("ownerOf(1) after undo()", x.ownerOf(1), 0);
            Check.due("isTarget(1) after undo()", x.isTarget(1), 1);
            Check.configuration(x, 0, 0);
        }
        PushdownGameSolver y = Check.configured("g2,2;t1;r0,0,0,0;r0,0,1,1;");
        y.setOwner(0, 0);
        y.setTarget(1, 1);
        y.play(0);
        Check.due("undo() of play of the same", y.undo(), 2);
        Check.due("undo() of setTarget of the same", y.undo(), 1);
        Check.due("undo() of setOwner of the same", y.undo(), 0);
        y.place(0);
        y.place(0);
        Check.due("undo() of place of the same", y.undo(), 1);
        Check.configuration(y, 0);
        Check.due("undo() of the first place", y.undo(), 0);
        Check.configuration(y, 0, 0);
    }

    @Boundary(promise = 0, sentence = "Every successful call of addRule, removeRule, setOwner, setTarget, place, push"
            + " and play is a change, also if it leaves everything as it was.")
    static void otherCallsAreNoChanges() {
        PushdownGameSolver x = Refused.busy();
        Check.due("undo()", x.undo(), 5);
        x.append('x');
        x.firstError();
        x.configure();
        x.clearText();
        x.winner();
        x.winningRound();
        x.distance();
        x.bestRule();
        x.rounds();
        x.playableRules();
        x.forcingSet(0, 0, 0);
        x.winningStacks(0, 3);
        x.push(3);
        x.play(9);
        Check.due("undo() after calls that are no changes", x.undo(), 4);
    }

    @Boundary(promise = 0, sentence = "The newest 6 changes can be undone, the newest first.")
    static void newestSix() {
        for (int changes = 0; changes <= 20; changes++) {
            PushdownGameSolver x = widest();
            for (int i = 0; i < changes; i++) {
                x.setOwner(i % 4, i / 4 % 2 == 0 ? 1 : 0);
            }
            int undoable = Math.min(changes, 6);
            for (int left = undoable - 1; left >= 0; left--) {
                int undone = changes - (undoable - left);
                Check.due("undo() of change " + undone + " of " + changes, x.undo(), left);
                Check.due("ownerOf after it", x.ownerOf(undone % 4), undone / 4 % 2 == 0 ? 0 : 1);
            }
            Check.due("undo() of a seventh of " + changes, x.undo(), -2);
        }
    }

    @Boundary(promise = 0, sentence = "The newest 6 changes can be undone, the newest first.")
    static void undoneAndChangedAgain() {
        PushdownGameSolver x = widest();
        for (int i = 0; i < 9; i++) {
            x.push(i % 3);
        }
        Check.due("undo() of the ninth", x.undo(), 5);
        Check.due("undo() of the eighth", x.undo(), 4);
        Check.due("push in their place", x.push(2), 9);
        Check.due("push behind it", x.push(2), 10);
        Check.due("push behind it, which forgets the oldest", x.push(2), 11);
        for (int left = 5; left >= 0; left--) {
            Check.due("undo()", x.undo(), left);
        }
        Check.configuration(x, 0, 0, 2, 1, 0, 0);
        Check.due("undo() of the forgotten", x.undo(), -2);
    }

    @Boundary(promise = 0, sentence = "The game text is not affected.")
    static void textNotAffectedByUndo() {
        PushdownGameSolver x = new PushdownGameSolver();
        x.push(1);
        Check.type(x, "g1,1;");
        x.push(1);
        Check.due("undo()", x.undo(), 1);
        Check.due("firstError() after undo()", x.firstError(), -4);
        Check.due("append after undo()", x.append('o'), 6);
        Check.due("undo() again", x.undo(), 0);
        Check.due("clearText() after undo()", x.clearText(), 6);
        Check.due("undo() of clearText()", x.undo(), -2);
        Check.due("clearText() is not undone", x.clearText(), 0);
    }

    @Boundary(promise = 0, sentence = "After configure nothing can be undone.")
    static void nothingUndoneAfterConfigure() {
        PushdownGameSolver x = Refused.busy();
        Check.due("configure()", x.configure(), 1);
        Check.due("undo() after configure()", x.undo(), -2);
        x.push(0);
        Check.due("undo() of the change after it", x.undo(), 0);
        Check.due("undo() of no more", x.undo(), -2);
        x.append('x');
        x.push(0);
        Check.due("a refused configure()", x.configure(), -2);
        Check.due("undo() after a refused configure()", x.undo(), 0);
    }

    @Boundary(promise = 6, sentence = "`state`: an existing state")
    static void stateOfRule() {
        for (int n = 0; n < 4; n++) {
            Check.due("addRule of state " + n, widest().addRule(n, 0, 0, 0, 0), 0);
        }
        refusedFor("addRule of state", Check.outside(0, 3), n -> widest().addRule(n, 0, 0, 0, 0));
        refusedFor("addRule of state", Check.outside(0, 0), n -> smallest().addRule(n, 0, 0, 0, 0));
    }

    @Boundary(promise = 6, sentence = "`top`: an existing symbol")
    static void topOfRule() {
        for (int n = 0; n < 3; n++) {
            Check.due("addRule of top " + n, widest().addRule(0, n, 0, 0, 0), 0);
        }
        refusedFor("addRule of top", Check.outside(0, 2), n -> widest().addRule(0, n, 0, 0, 0));
        refusedFor("addRule of top", Check.outside(0, 0), n -> smallest().addRule(0, n, 0, 0, 0));
    }

    @Boundary(promise = 6, sentence = "`next`: an existing state")
    static void nextOfRule() {
        for (int n = 0; n < 4; n++) {
            Check.due("addRule of next " + n, widest().addRule(0, 0, n, 0, 0), 0);
        }
        refusedFor("addRule of next", Check.outside(0, 3), n -> widest().addRule(0, 0, n, 0, 0));
        refusedFor("addRule of next", Check.outside(0, 0), n -> smallest().addRule(0, 0, n, 0, 0));
    }

    @Boundary(promise = 6, sentence = "`upper`: an existing symbol, or NO_SYMBOL if the rule pushes no symbol")
    static void upperOfRule() {
        for (int n = -1; n < 3; n++) {
            PushdownGameSolver x = widest();
            Check.due("addRule of upper " + n, x.addRule(0, 0, 0, n, -1), 0);
            Check.due("ruleSymbol(0, 0) of upper " + n, x.ruleSymbol(0, 0), n == -1 ? -4 : n);
        }
        refusedFor("addRule of upper", Check.outside(-1, 2), n -> widest().addRule(0, 0, 0, n, -1));
        refusedFor("addRule of upper", Check.outside(-1, 2), n -> widest().addRule(0, 0, 0, n, 0));
        refusedFor("addRule of upper", Check.outside(-1, 0), n -> smallest().addRule(0, 0, 0, n, -1));
    }

    @Boundary(promise = 6,
            sentence = "`lower`: an existing symbol, or NO_SYMBOL if the rule pushes fewer than two symbols")
    static void lowerOfRule() {
        for (int n = -1; n < 3; n++) {
            PushdownGameSolver x = widest();
            Check.due("addRule of lower " + n, x.addRule(0, 0, 0, 0, n), 0);
            Check.due("ruleSymbol(0, 1) of lower " + n, x.ruleSymbol(0, 1), n == -1 ? -4 : n);
        }
        Check.due("addRule of neither", widest().addRule(0, 0, 0, -1, -1), 0);
        refusedFor("addRule of lower", Check.outside(-1, 2), n -> widest().addRule(0, 0, 0, 0, n));
        refusedFor("addRule of lower", Check.outside(-1, 2), n -> widest().addRule(0, 0, 0, -1, n));
        refusedFor("addRule of lower", Check.outside(-1, 0), n -> smallest().addRule(0, 0, 0, 0, n));
    }

    @Boundary(promise = 6, sentence = "Returns the number of the rule")
    static void numberOfRule() {
        PushdownGameSolver x = widest();
        for (int i = 0; i < 16; i++) {
            Check.due("addRule", x.addRule(i % 4, i / 4 % 3, 0, -1, -1), i);
            Check.due("ruleCount()", x.ruleCount(), i + 1);
        }
    }

    @Boundary(promise = 6,
            sentence = "INVALID_ARGUMENT if an argument is none of these, or if upper is NO_SYMBOL and lower is not")
    static void wrongRule() {
        Refused.due("addRule of state 4", x -> x.addRule(4, 0, 0, 0, 0), -1);
        Refused.due("addRule of state -1", x -> x.addRule(-1, 0, 0, 0, 0), -1);
        Refused.due("addRule of top 3", x -> x.addRule(0, 3, 0, 0, 0), -1);
        Refused.due("addRule of top -1", x -> x.addRule(0, -1, 0, 0, 0), -1);
        Refused.due("addRule of next 4", x -> x.addRule(0, 0, 4, 0, 0), -1);
        Refused.due("addRule of next -1", x -> x.addRule(0, 0, -1, 0, 0), -1);
        Refused.due("addRule of upper 3", x -> x.addRule(0, 0, 0, 3, 0), -1);
        Refused.due("addRule of upper -2", x -> x.addRule(0, 0, 0, -2, -1), -1);
        Refused.due("addRule of lower 3", x -> x.addRule(0, 0, 0, 0, 3), -1);
        Refused.due("addRule of lower -2", x -> x.addRule(0, 0, 0, 0, -2), -1);
        for (int lower = 0; lower < 3; lower++) {
            int n = lower;
            Refused.due("addRule of no upper and lower " + n, x -> x.addRule(0, 0, 0, -1, n), -1);
        }
        Check.due("addRule of neither", Refused.busy().addRule(0, 0, 0, -1, -1), 4);
        Check.due("addRule of both", Refused.busy().addRule(3, 2, 3, 2, 2), 4);
    }

    @Boundary(promise = 6,
            sentence = "CAPACITY_EXCEEDED if there are already 16 rules, or 3 rules with this state and top symbol")
    static void tooManyRules() {
        Refused.due("a 17th rule", BoundaryChangeTest::sixteen, x -> x.addRule(3, 2, 0, -1, -1), -3);
        PushdownGameSolver fifteen = sixteen();
        fifteen.removeRule(0);
        Check.due("a 16th rule", fifteen.addRule(3, 2, 0, -1, -1), 15);
        String three = "g2,2;r1,1,0;r1,1,0;r1,1,0;";
        Refused.due("a fourth rule", () -> Check.configured(three), x -> x.addRule(1, 1, 1, 0, -1), -3);
        Check.due("a rule of another state", Check.configured(three).addRule(0, 1, 0, -1, -1), 3);
        Check.due("a rule of another top", Check.configured(three).addRule(1, 0, 0, -1, -1), 3);
        Check.due("a third rule", Check.configured("g2,2;r1,1,0;r1,1,0;").addRule(1, 1, 0, -1, -1), 2);
        PushdownGameSolver x = Check.configured(three);
        x.removeRule(1);
        Check.due("a third rule again", x.addRule(1, 1, 0, -1, -1), 2);
        Check.due("a fourth rule again", x.addRule(1, 1, 0, -1, -1), -3);
        x.undo();
        Check.due("a third rule after undo()", x.addRule(1, 1, 1, -1, -1), 2);
    }

    @Boundary(promise = 7, sentence = "Removes a rule; the numbers of the rules behind it become smaller by 1.")
    static void numbersBehindRemoved() {
        String text = "g4,1;r0,0,0;r1,0,0;r2,0,0;r3,0,0;";
        for (int removed = 0; removed < 4; removed++) {
            PushdownGameSolver x = Check.configured(text);
            Check.due("removeRule(" + removed + ")", x.removeRule(removed), 3);
            for (int i = 0; i < 3; i++) {
                Check.due("ruleState(" + i + ")", x.ruleState(i), i < removed ? i : i + 1);
            }
            Check.due("ruleState(3)", x.ruleState(3), -1);
        }
        PushdownGameSolver y = sixteen();
        Check.due("removeRule(0) of 16", y.removeRule(0), 15);
        Check.due("ruleState(14)", y.ruleState(14), 3);
        Check.due("ruleState(15)", y.ruleState(15), -1);
    }

    @Boundary(promise = 7, sentence = "Removes a rule; the numbers of the rules behind it become smaller by 1.")
    static void removedRuleIsForgotten() {
        for (int owner = 0; owner < 2; owner++) {
            PushdownGameSolver x = Check.configured("g3,1;t2;r0,0,1,0;r1,0,2;r0,0," + (owner == 0 ? "2;" : "0;"));
            x.setOwner(0, owner);
            Check.due("distance() with the last rule", x.distance(), owner == 0 ? 1 : -4);
            Check.due("playableRules() with the last rule", x.playableRules(), 2);
            x.removeRule(2);
            Check.due("distance() without the last rule", x.distance(), 2);
            Check.due("bestRule() without the last rule", x.bestRule(), owner == 0 ? 0 : -2);
            Check.due("playableRules() without the last rule", x.playableRules(), 1);
            Check.due("winner() without the last rule", x.winner(), 0);
        }
    }

    @Boundary(promise = 7, sentence = "`rule`: number of an existing rule")
    static void ruleToRemove() {
        Check.due("removeRule(0)", sixteen().removeRule(0), 15);
        Check.due("removeRule(15)", sixteen().removeRule(15), 15);
        refusedFor("removeRule", Check.outside(0, 15), n -> sixteen().removeRule(n));
        refusedFor("removeRule", Check.outside(0, 5), n -> new PushdownGameSolver().removeRule(n));
        refusedFor("removeRule", Check.outside(0, -1), n -> widest().removeRule(n));
    }

    @Boundary(promise = 7, sentence = "Returns the new number of rules")
    static void numberOfRulesLeft() {
        PushdownGameSolver x = sixteen();
        for (int left = 15; left >= 0; left--) {
            Check.due("removeRule(0)", x.removeRule(0), left);
            Check.due("ruleCount()", x.ruleCount(), left);
        }
        Check.due("removeRule(0) of none", x.removeRule(0), -1);
    }

    @Boundary(promise = 7, sentence = "INVALID_ARGUMENT if there is no such rule")
    static void noRuleToRemove() {
        Refused.due("removeRule(-1)", x -> x.removeRule(-1), -1);
        Refused.due("removeRule(4)", x -> x.removeRule(4), -1);
        Refused.due("removeRule(16)", BoundaryChangeTest::sixteen, x -> x.removeRule(16), -1);
        Refused.due("removeRule(0) of none", BoundaryChangeTest::widest, x -> x.removeRule(0), -1);
        Check.due("removeRule(3)", Refused.busy().removeRule(3), 3);
    }

    @Boundary(promise = 8, sentence = "`state`: an existing state")
    static void stateToGive() {
        for (int n = 0; n < 4; n++) {
            Check.due("setOwner(" + n + ", 1)", widest().setOwner(n, 1), 0);
        }
        refusedFor("setOwner of state", Check.outside(0, 3), n -> widest().setOwner(n, 1));
        refusedFor("setOwner of state", Check.outside(0, 0), n -> smallest().setOwner(n, 1));
    }

    @Boundary(promise = 8, sentence = "`player`: REACHER or OPPONENT")
    static void playerToOwn() {
        Check.due("setOwner(0, REACHER)", widest().setOwner(0, PushdownGameSolver.REACHER), 0);
        Check.due("setOwner(0, OPPONENT)", widest().setOwner(0, PushdownGameSolver.OPPONENT), 0);
        refusedFor("setOwner of player", Check.outside(0, 1), n -> widest().setOwner(0, n));
    }

    @Boundary(promise = 8, sentence = "Returns the player to whom the state belonged")
    static void formerOwner() {
        PushdownGameSolver x = widest();
        for (int state = 0; state < 4; state++) {
            Check.due("setOwner(" + state + ", 1)", x.setOwner(state, 1), 0);
            Check.due("setOwner again", x.setOwner(state, 1), 1);
            Check.due("setOwner(" + state + ", 0)", x.setOwner(state, 0), 1);
            Check.due("setOwner back again", x.setOwner(state, 0), 0);
        }
    }

    @Boundary(promise = 8, sentence = "INVALID_ARGUMENT if an argument is out of range")
    static void wrongOwner() {
        Refused.due("setOwner(4, 1)", x -> x.setOwner(4, 1), -1);
        Refused.due("setOwner(-1, 1)", x -> x.setOwner(-1, 1), -1);
        Refused.due("setOwner(32, 1)", x -> x.setOwner(32, 1), -1);
        Refused.due("setOwner(0, 2)", x -> x.setOwner(0, 2), -1);
        Refused.due("setOwner(0, -1)", x -> x.setOwner(0, -1), -1);
        Check.due("setOwner(3, 1)", Refused.busy().setOwner(3, 1), 0);
    }

    @Boundary(promise = 9, sentence = "`state`: an existing state")
    static void stateToAim() {
        for (int n = 0; n < 4; n++) {
            Check.due("setTarget(" + n + ", 1)", widest().setTarget(n, 1), 0);
        }
        refusedFor("setTarget of state", Check.outside(0, 3), n -> widest().setTarget(n, 1));
        refusedFor("setTarget of state", Check.outside(0, 0), n -> smallest().setTarget(n, 1));
    }

    @Boundary(promise = 9, sentence = "`target`: 1 to make it a target, 0 to make it none")
    static void targetOrNone() {
        Check.due("setTarget(0, 0)", widest().setTarget(0, 0), 0);
        Check.due("setTarget(0, 1)", widest().setTarget(0, 1), 0);
        refusedFor("setTarget of target", Check.outside(0, 1), n -> widest().setTarget(0, n));
    }

    @Boundary(promise = 9, sentence = "Returns 1 if the state was a target, else 0")
    static void formerTarget() {
        PushdownGameSolver x = widest();
        for (int state = 0; state < 4; state++) {
            Check.due("setTarget(" + state + ", 1)", x.setTarget(state, 1), 0);
            Check.due("setTarget again", x.setTarget(state, 1), 1);
            Check.due("setTarget(" + state + ", 0)", x.setTarget(state, 0), 1);
            Check.due("setTarget back again", x.setTarget(state, 0), 0);
        }
    }

    @Boundary(promise = 9, sentence = "INVALID_ARGUMENT if an argument is out of range")
    static void wrongTarget() {
        Refused.due("setTarget(4, 1)", x -> x.setTarget(4, 1), -1);
        Refused.due("setTarget(-1, 1)", x -> x.setTarget(-1, 1), -1);
        Refused.due("setTarget(32, 1)", x -> x.setTarget(32, 1), -1);
        Refused.due("setTarget(0, 2)", x -> x.setTarget(0, 2), -1);
        Refused.due("setTarget(0, -1)", x -> x.setTarget(0, -1), -1);
        Check.due("setTarget(3, 0)", Refused.busy().setTarget(3, 0), 1);
    }

    @Boundary(promise = 10, sentence = "Sets the state of the present configuration and empties its stack.")
    static void emptiedStack() {
        for (int size : new int[] {0, 1, 12}) {
            PushdownGameSolver x = withStackOf(size);
            x.place(1);
            Check.configuration(x, 1);
            Check.due("stackSymbol(0) after place", x.stackSymbol(0), -1);
            Check.due("push after place", x.push(2), 1);
            Check.configuration(x, 1, 2);
        }
    }

    @Boundary(promise = 10, sentence = "`state`: an existing state")
    static void stateToPlace() {
        for (int n = 0; n < 4; n++) {
            PushdownGameSolver x = widest();
            Check.due("place(" + n + ")", x.place(n), 1);
            Check.configuration(x, n);
        }
        refusedFor("place", Check.outside(0, 3), n -> widest().place(n));
        refusedFor("place", Check.outside(0, 0), n -> smallest().place(n));
    }

    @Boundary(promise = 10, sentence = "Returns the number of symbols the stack had")
    static void symbolsItHad() {
        for (int size = 0; size <= 12; size++) {
            Check.due("place(0) with " + size, withStackOf(size).place(0), size);
        }
    }

    @Boundary(promise = 10, sentence = "INVALID_ARGUMENT if there is no such state")
    static void noStateToPlace() {
        Refused.due("place(4)", x -> x.place(4), -1);
        Refused.due("place(-1)", x -> x.place(-1), -1);
        Refused.due("place(3) of 3 states", PushdownGameSolver::new, x -> x.place(3), -1);
        Check.due("place(3)", Refused.busy().place(3), 3);
    }

    @Boundary(promise = 11, sentence = "`symbol`: an existing symbol")
    static void symbolToPush() {
        for (int n = 0; n < 3; n++) {
            PushdownGameSolver x = widest();
            Check.due("push(" + n + ")", x.push(n), 2);
            Check.configuration(x, 0, n, 0);
        }
        refusedFor("push", Check.outside(0, 2), n -> widest().push(n));
        refusedFor("push", Check.outside(0, 0), n -> smallest().push(n));
    }

    @Boundary(promise = 11, sentence = "Returns the new number of symbols of the stack")
    static void symbolsItHas() {
        PushdownGameSolver x = widest();
        x.place(0);
        for (int size = 1; size <= 12; size++) {
            Check.due("push number " + size, x.push(size % 3), size);
            Check.due("stackSize()", x.stackSize(), size);
        }
        Check.configuration(x, 0, 0, 2, 1, 0, 2, 1, 0, 2, 1, 0, 2, 1);
    }

    @Boundary(promise = 11, sentence = "INVALID_ARGUMENT if there is no such symbol")
    static void noSymbolToPush() {
        Refused.due("push(3)", x -> x.push(3), -1);
        Refused.due("push(-1)", x -> x.push(-1), -1);
        Refused.due("push(2) of 2 symbols", PushdownGameSolver::new, x -> x.push(2), -1);
        Refused.due("push(3) on 12 symbols", () -> withStackOf(12), x -> x.push(3), -1);
        Check.due("push(2)", Refused.busy().push(2), 4);
    }

    @Boundary(promise = 11, sentence = "CAPACITY_EXCEEDED if the stack has 12 symbols")
    static void pushOnFullStack() {
        Refused.due("push(0) on 12 symbols", () -> withStackOf(12), x -> x.push(0), -3);
        Refused.due("push(2) on 12 symbols", () -> withStackOf(12), x -> x.push(2), -3);
        Check.due("push(2) on 11 symbols", withStackOf(11).push(2), 12);
        PushdownGameSolver x = withStackOf(12);
        x.undo();
        Check.due("push after undo()", x.push(2), 12);
    }

    @Boundary(promise = 12, sentence = "`rule`: number of an existing rule")
    static void ruleToPlay() {
        PushdownGameSolver x = sixteen();
        Check.due("play(0)", x.play(0), 0);
        Check.placed(x, 3, 0);
        Check.due("play(15)", x.play(15), 0);
        refusedFor("play", Check.outside(0, 15), n -> sixteen().play(n));
        refusedFor("play", Check.outside(0, -1), n -> widest().play(n));
    }

    @Boundary(promise = 12, sentence = "Returns the new state")
    static void newState() {
        PushdownGameSolver x = Check.configured("g4,1;r0,0,3,0;r3,0,0,0;");
        Check.due("play(0) to the last state", x.play(0), 3);
        Check.due("presentState()", x.presentState(), 3);
        Check.due("play(1) to the first state", x.play(1), 0);
        Check.due("presentState()", x.presentState(), 0);
    }

    @Boundary(promise = 12, sentence = "INVALID_ARGUMENT if there is no such rule")
    static void noRuleToPlay() {
        Refused.due("play(-1)", x -> x.play(-1), -1);
        Refused.due("play(4)", x -> x.play(4), -1);
        Refused.due("play(16)", BoundaryChangeTest::sixteen, x -> x.play(16), -1);
        Refused.due("play(0) of no rules", BoundaryChangeTest::widest, x -> x.play(0), -1);
        PushdownGameSolver y = Check.configured("g1,1;r0,0,0,0;r0,0,0;");
        y.removeRule(1);
        Check.due("play(1) of a removed rule", y.play(1), -1);
        Check.due("play(0) before it", y.play(0), 0);
    }

    @Boundary(promise = 12, sentence = "NOT_POSSIBLE if the rule is not playable")
    static void ruleNotPlayable() {
        Refused.due("play(3) of another state", () -> withStackOf(3), x -> x.play(3), -2);
        Refused.due("play(4) of another top", () -> withStackOf(3), x -> x.play(4), -2);
        Refused.due("play(0) with an empty stack", () -> withStackOf(0), x -> x.play(0), -2);
        Refused.due("play(2) with an empty stack", () -> withStackOf(0), x -> x.play(2), -2);
        Refused.due("play(3) on 12 symbols", () -> withStackOf(12), x -> x.play(3), -2);
        Refused.due("play(4) on 12 symbols", () -> withStackOf(12), x -> x.play(4), -2);
        Check.due("play(0) with one symbol", withStackOf(1).play(0), 1);
    }

    @Boundary(promise = 12, sentence = "CAPACITY_EXCEEDED if the stack would have more than 12 symbols")
    static void playOverFullStack() {
        Refused.due("play(2) on 12 symbols", () -> withStackOf(12), x -> x.play(2), -3);
        Check.due("play(1) on 12 symbols", withStackOf(12).play(1), 1);
        Check.due("play(0) on 12 symbols", withStackOf(12).play(0), 1);
        PushdownGameSolver x = withStackOf(11);
        Check.due("play(2) on 11 symbols", x.play(2), 1);
        Check.configuration(x, 1, 2, 1, 2, 2, 2, 2, 2, 2, 2, 2, 2, 2);
    }

    @Boundary(promise = 13, sentence = "Undoes the newest change.")
    static void newestUndone() {
        PushdownGameSolver x = Check.configured("g2,2;t1;r0,0,0,0;r0,0,1,1;");
        for (int i = 0; i < CHANGES.length - 1; i++) {
            change(x, CHANGES[i]);
        }
        Check.configuration(x, 1, 0);
        x.undo();
        Check.configuration(x, 1);
        x.undo();
        Check.configuration(x, 0, 0);
        Check.due("isTarget(1) before undo()", x.isTarget(1), 0);
        x.undo();
        Check.due("isTarget(1) after undo()", x.isTarget(1), 1);
        Check.due("ownerOf(1) before undo()", x.ownerOf(1), 1);
        x.undo();
        Check.due("ownerOf(1) after undo()", x.ownerOf(1), 0);
        Check.due("ruleCount() before undo()", x.ruleCount(), 2);
        x.undo();
        Check.due("ruleCount() after undo()", x.ruleCount(), 3);
        Check.rule(x, 2, 0, 1, 1, 1, 0);
        x.undo();
        Check.due("ruleCount() at the end", x.ruleCount(), 2);
    }

    @Boundary(promise = 13, sentence = "Returns the number of changes that can still be undone")
    static void changesLeft() {
        for (int changes = 1; changes <= 14; changes++) {
            PushdownGameSolver x = widest();
            for (int i = 0; i < changes; i++) {
                x.place(i % 4);
            }
            Check.due("undo() of " + changes, x.undo(), Math.min(changes, 6) - 1);
        }
    }

    @Boundary(promise = 13, sentence = "NOT_POSSIBLE if there is none to undo")
    static void noneToUndo() {
        Refused.due("undo() of a new object", PushdownGameSolver::new, PushdownGameSolver::undo, -2);
        Refused.due("undo() after six", () -> undone(6), PushdownGameSolver::undo, -2);
        Check.due("undo() after five", undone(5).undo(), 0);
        PushdownGameSolver x = undone(6);
        x.undo();
        x.undo();
        int size = x.stackSize();
        Check.due("push after refused undos", x.push(1), size + 1);
        Check.due("undo() of the push", x.undo(), 0);
        Check.due("undo() of no more", x.undo(), -2);
    }

    private static PushdownGameSolver undone(int times) {
        PushdownGameSolver x = Refused.busy();
        for (int i = 0; i < times; i++) {
            x.undo();
        }
        return x;
    }
}
