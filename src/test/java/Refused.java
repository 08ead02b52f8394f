import java.util.ArrayList;
import java.util.List;
import java.util.function.Supplier;
import java.util.function.ToLongFunction;

/** Holds that a refused call changes nothing: a twin on which it is not made answers all that follows alike. */
final class Refused {
    private static final int UNDONE_AT_MOST = 7;
    private static final String OTHER_TEXT = "g2,1;t1;r0,0,1;";

    private static int asked = 0;

    private Refused() {
    }

    static int asked() {
        return asked;
    }

    /** A solver in which a change would show: a game, six changes and more, and the text of another game. */
    static PushdownGameSolver busy() {
        PushdownGameSolver x = Check.configured("g4,3;o1;t3;r0,0,1,1,2;r1,1,2,0;r2,0,0;r0,2,3;");
        Check.type(x, OTHER_TEXT);
        x.push(2);
        x.addRule(0, 1, 2, 1, -1);
        x.setOwner(2, 1);
        x.removeRule(2);
        x.setTarget(2, 1);
        x.place(0);
        x.push(2);
        x.push(0);
        x.play(0);
        return x;
    }

    static void due(String call, ToLongFunction<PushdownGameSolver> made, long code) {
        due(call, Refused::busy, made, code);
    }

    static void due(String call, Supplier<PushdownGameSolver> before, ToLongFunction<PushdownGameSolver> made,
            long code) {
        asked++;
        for (int undone = 0; undone <= UNDONE_AT_MOST; undone++) {
            PushdownGameSolver called = before.get();
            PushdownGameSolver twin = before.get();
            Check.due(call, made.applyAsLong(called), code);
            Check.holds(call + " changes nothing, " + undone + " undone",
                    afterUndoing(called, undone).equals(afterUndoing(twin, undone)));
        }
        PushdownGameSolver called = before.get();
        PushdownGameSolver twin = before.get();
        Check.due(call, made.applyAsLong(called), code);
        Check.holds(call + " does not change the text", ofText(called).equals(ofText(twin)));
    }

    private static List<Long> afterUndoing(PushdownGameSolver x, int undone) {
        List<Long> answers = new ArrayList<>();
        for (int i = 0; i < undone; i++) {
            answers.add((long) x.undo());
        }
        addGame(x, answers);
        return answers;
    }

    private static List<Long> ofText(PushdownGameSolver x) {
        List<Long> answers = new ArrayList<>();
        answers.add((long) x.firstError());
        answers.add((long) x.configure());
        addGame(x, answers);
        answers.add((long) x.append('x'));
        answers.add((long) x.firstError());
        answers.add((long) x.clearText());
        return answers;
    }

    /** All that the public face tells of the game and the present configuration, without a change. */
    private static void addGame(PushdownGameSolver x, List<Long> answers) {
        answers.add((long) x.ruleCount());
        for (int i = 0; i < x.ruleCount(); i++) {
            answers.add((long) x.ruleState(i));
            answers.add((long) x.ruleTop(i));
            answers.add((long) x.ruleNext(i));
            answers.add((long) x.ruleSymbol(i, 0));
            answers.add((long) x.ruleSymbol(i, 1));
        }
        for (int state = 0; state < 4; state++) {
            answers.add((long) x.ownerOf(state));
            answers.add((long) x.isTarget(state));
            answers.add(x.winningStacks(state, 5));
            for (int symbol = 0; symbol < 3; symbol++) {
                answers.add((long) x.forcingSetCount(state, symbol));
                answers.add((long) x.forcingSet(state, symbol, 0));
            }
        }
        answers.add((long) x.presentState());
        answers.add((long) x.stackSize());
        for (int depth = 0; depth < x.stackSize(); depth++) {
            answers.add((long) x.stackSymbol(depth));
        }
        answers.add((long) x.playableRules());
        answers.add((long) x.winner());
        answers.add((long) x.winningRound());
        answers.add((long) x.distance());
        answers.add((long) x.bestRule());
        answers.add((long) x.rounds());
    }
}
