/** Games sought for their many rounds, many minimal sets and late targets, which runs drawn by chance seldom meet. */
public final class HardGamesTest {
    private static final String[] MANY_ROUNDS = {
        "g4,3;o1;t3;r0,0,0,2;r2,0,1,1,0;r1,2,2,2;r1,0,0,1,1;r2,1,0,0,2;r0,1,2;r0,2,2,0,0;r3,2,2,2,1;r2,2,1;r0,0,1;"
                + "r1,1,0;r2,2,1,0,1;r3,0,0;r3,1,0,0;r1,2,2,0,1;",
        "g4,3;o0;o1;t2;r3,2,0;r2,0,2,2;r3,2,0,1,0;r1,2,2;r1,1,0,0,2;r0,1,3,0;r0,0,1;r0,2,3,2;r3,1,0,2;r2,2,0,2;"
                + "r1,0,2;r1,2,3,1,1;r3,0,3;r3,0,1,1;r0,1,3,1;",
        "g4,3;o1;t3;r2,2,1;r3,2,0,2,2;r1,1,0;r0,2,2,1;r1,0,0,0;r2,1,2,2;r1,2,2,0;r3,1,2,0,1;r1,2,2,0;r0,0,2,1,2;"
                + "r0,1,2;r2,2,1,0;r0,2,1,1;r1,2,2,2,1;r0,1,1,0;r2,0,0,1,1;",
        "g4,3;t0;r2,0,1,2;r3,0,1,1,1;r3,2,0;r1,2,2,2,2;r1,0,2,0,0;r1,1,3;r0,2,3;r0,1,1,0;r2,1,1;r3,0,2;r1,1,2,2;"
                + "r2,2,1,0;r1,2,3,1;r3,1,3,0;r3,2,1,2,1;r1,2,3,1,0;"};
    private static final int[] ROUNDS = {29, 29, 28, 27};

    /** Of the sets of four states, no more than six can be such that none contains another: those of two states. */
    private static final String[] SIX_SETS = {
        "g4,3;o1;r1,0,0,0;r0,1,0,0,0;r3,2,3,2,1;r2,2,3,0;r2,0,3,1,0;r1,2,3;r0,0,3,2,2;r1,1,2,2,0;r3,0,1,1;r2,1,0,1,2;"
                + "r3,0,2;r1,0,0,0,2;r3,2,0;r3,1,0,1;r0,2,1;",
        "g4,2;o1;r3,1,1,0,0;r1,0,0,1,0;r2,0,1,1,1;r2,1,1;r3,0,0,0,1;r3,1,2;r2,1,0;r1,1,2,1;r0,1,3;r0,0,1;r0,1,1,1,0;"
                + "r1,1,3,1;r2,1,3,1,0;r0,0,1,1;r2,0,0;"};
    private static final int[] SETS_OF_TWO = {3, 5, 6, 9, 10, 12};

    private static final String[] SMALLER = {"g3,2;o1;t2;r0,0,1,0,1;r0,1,0;r1,0,0;r1,0,1,1;r1,1,2;r1,1,0,1;",
        "g2,1;t1;r0,0,0,0,0;r0,0,0;", "g2,2;o0;r0,0,1,1,1;r1,1,1;r1,1,0;r0,0,0;", "g1,1;r0,0,0,0,0;r0,0,0;", "g1,3;t0;"};
    private static final int[] SIZES = {0, 1, 2, 3, 4, 5, 11, 12, 38, 39, 40, 59, 60, 61};

    private HardGamesTest() {
    }

    public static void main(String[] args) {
        manyRounds();
        sixSets();
        PushdownGameSolver x = new PushdownGameSolver();
        for (String hard : concat(MANY_ROUNDS, SIX_SETS)) {
            asReference(new PushdownGameSolver(), hard);
            // a used object must not remember the greater game in the smaller one
            for (String small : SMALLER) {
                asReference(x, hard);
                asReference(x, small);
            }
        }
        Check.end();
    }

    private static String[] concat(String[] first, String[] second) {
        String[] both = new String[first.length + second.length];
        System.arraycopy(first, 0, both, 0, first.length);
        System.arraycopy(second, 0, both, first.length, second.length);
        return both;
    }

    private static void manyRounds() {
        for (int i = 0; i < MANY_ROUNDS.length; i++) {
            Check.due("rounds() of " + MANY_ROUNDS[i], Check.configured(MANY_ROUNDS[i]).rounds(), ROUNDS[i]);
        }
    }

    private static void sixSets() {
        for (String game : SIX_SETS) {
            PushdownGameSolver x = Check.configured(game);
            int pairs = 0;
            for (int state = 0; state < 4; state++) {
                for (int symbol = 0; symbol < 3; symbol++) {
                    if (x.forcingSetCount(state, symbol) == SETS_OF_TWO.length) {
                        pairs++;
                        Check.sets(x, state, symbol, SETS_OF_TWO);
                    }
                }
            }
            Check.holds("a pair has six sets in " + game, pairs > 0);
        }
    }

    private static void asReference(PushdownGameSolver x, String game) {
        ReferenceModel model = new ReferenceModel();
        Check.type(x, game);
        for (int i = 0; i < game.length(); i++) {
            model.append(game.charAt(i));
        }
        Check.due("configure() by " + game, x.configure(), model.configure());
        Check.due("rounds() of " + game, x.rounds(), model.rounds());
        for (int state = 0; state < 4; state++) {
            for (int symbol = 0; symbol < 3; symbol++) {
                sameSets(x, model, state, symbol);
            }
            for (int size : SIZES) {
                Check.due("winningStacks(" + state + ", " + size + ") of " + game, x.winningStacks(state, size),
                        model.winningStacks(state, size));
            }
            sameWithStacks(x, model, state);
        }
    }

    private static void sameSets(PushdownGameSolver x, ReferenceModel model, int state, int symbol) {
        String pair = state + ", " + symbol;
        Check.due("forcingSetCount(" + pair + ")", x.forcingSetCount(state, symbol),
                model.forcingSetCount(state, symbol));
        for (int index = 0; index <= SETS_OF_TWO.length; index++) {
            Check.due("forcingSet(" + pair + ", " + index + ")", x.forcingSet(state, symbol, index),
                    model.forcingSet(state, symbol, index));
        }
    }

    private static void sameWithStacks(PushdownGameSolver x, ReferenceModel model, int state) {
        for (int stack = 0; stack < 27; stack++) {
            Check.due("place(" + state + ")", x.place(state), model.place(state));
            for (int symbol : new int[] {stack / 9, stack / 3 % 3, stack % 3}) {
                Check.due("push(" + symbol + ")", x.push(symbol), model.push(symbol));
            }
            Check.due("winner()", x.winner(), model.winner());
            Check.due("winningRound()", x.winningRound(), model.winningRound());
            Check.due("distance()", x.distance(), model.distance());
            Check.due("bestRule()", x.bestRule(), model.bestRule());
        }
    }
}
