/** The boundaries of the solver's answers: promises 25 to 32. */
public final class BoundarySolveTest {
    private static final long POWER_39_OF_3 = 4052555153018976267L;

    /** Each of the six sets of two states is a minimal forcing set of the pair (0, 0): the most a pair can have. */
    private static final String SIX_SETS = "g4,3;o1;r0,0,1,0;r0,0,1,1;r0,0,1,2;r1,0,2,0;r1,0,2,1;"
            + "r2,0,0;r2,0,1;r2,1,2;r2,1,3;r1,1,0;r1,1,1;r1,2,2;r1,2,3;";

    private BoundarySolveTest() {
    }

    public static void main(String[] args) throws ReflectiveOperationException {
        Boundaries.run(BoundarySolveTest.class);
    }

    /** State 0 goes down over zeros to a one, so that its distance is the number of symbols. */
    private static PushdownGameSolver digging(int zeros) {
        PushdownGameSolver x = Check.configured(Check.DIG);
        x.place(0);
        x.push(1);
        for (int i = 0; i < zeros; i++) {
            x.push(0);
        }
        return x;
    }

    private static PushdownGameSolver sixSets() {
        return Check.configured(SIX_SETS);
    }

    @Boundary(promise = 25, sentence = "Returns the player who wins the present configuration.")
    static void winnerAtEdges() {
        for (int owner = 0; owner < 2; owner++) {
            PushdownGameSolver x = Check.configured("g2,1;t1;");
            x.setOwner(0, owner);
            x.setOwner(1, owner);
            Check.due("winner() without rules", x.winner(), 1);
            x.place(0);
            Check.due("winner() with an empty stack", x.winner(), 1);
            x.place(1);
            Check.due("winner() in a target with an empty stack", x.winner(), 0);
            x.push(0);
            Check.due("winner() in a target without rules", x.winner(), 0);
        }
        Check.due("winner() with 12 symbols and a one below", digging(11).winner(), 0);
        PushdownGameSolver y = digging(11);
        y.place(0);
        for (int i = 0; i < 12; i++) {
            y.push(0);
        }
        Check.due("winner() with 12 symbols and no one below", y.winner(), 1);
    }

    @Boundary(promise = 25, sentence = "Returns the player who wins the present configuration.")
    static void winnerOverFullStack() {
        PushdownGameSolver x = Check.configured("g3,2;t2;r0,0,1,0,0;r1,0,2,0,0;");
        Check.placed(x, 0, 0, 1, 1, 1, 1, 1, 1, 1, 1, 1, 1, 1);
        Check.due("winner() by way of 14 symbols", x.winner(), 0);
        Check.due("play(0) on 12 symbols", x.play(0), -3);
    }

    @Boundary(promise = 26, sentence = "Returns the least number of a round after which the present configuration is"
            + " accepted; NOT_FOUND if there is none.")
    static void leastRound() {
        PushdownGameSolver x = Check.configured("g4,3;");
        for (int i = 0; i < 12; i++) {
            x.addRule(i % 4, i / 4, (i + 1) % 4, i == 11 ? -1 : (i + 1) / 4, -1);
        }
        x.setTarget(3, 1);
        Check.placed(x, 3, 0);
        Check.due("winningRound() of a target", x.winningRound(), 0);
        for (int round = 1; round <= 3; round++) {
            Check.placed(x, 3 - round, 0);
            Check.due("winningRound() at distance " + round, x.winningRound(), round);
        }
        Check.due("rounds()", x.rounds(), 3);
        Refused.due("winningRound() of no rules", () -> Check.configured("g4,3;t3;"),
                PushdownGameSolver::winningRound, -4);
        Refused.due("winningRound() with an empty stack", BoundarySolveTest::placedOnly,
                PushdownGameSolver::winningRound, -4);
        x.place(3);
        Check.due("winningRound() of a target with an empty stack", x.winningRound(), 0);
    }

    private static PushdownGameSolver placedOnly() {
        PushdownGameSolver x = digging(0);
        x.place(0);
        return x;
    }

    @Boundary(promise = 27, sentence = "The limit of 12 symbols does not apply here.")
    static void distanceOverFullStack() {
        PushdownGameSolver x = Check.configured("g4,2;t3;r0,0,0,1,0;r0,1,1,0,0;r1,0,2,0,0;r2,0,2,1,0;r2,1,3,0,0;");
        Check.placed(x, 0, 0, 1, 1, 1, 1, 1, 1, 1, 1, 1, 1, 1);
        Check.due("distance() by way of 17 symbols", x.distance(), 5);
        Check.due("play(0) on 12 symbols", x.play(0), -3);
        Check.configuration(x, 0, 0, 1, 1, 1, 1, 1, 1, 1, 1, 1, 1, 1);
    }

    @Boundary(promise = 27, sentence = "Returns the least number n from 0 to 7 such that the reacher can force that a"
            + " target state is reached after at most n moves")
    static void distancesUpTo7() {
        PushdownGameSolver target = digging(11);
        target.place(1);
        Check.due("distance() in a target", target.distance(), 0);
        for (int zeros = 0; zeros <= 11; zeros++) {
            PushdownGameSolver x = digging(zeros);
            Check.due("distance() over " + zeros + " zeros", x.distance(), zeros < 7 ? zeros + 1 : -4);
            x.setOwner(0, 1);
            Check.due("distance() of the opponent over " + zeros, x.distance(), zeros < 7 ? zeros + 1 : -4);
            Check.due("winner() over " + zeros, x.winner(), 0);
        }
        Refused.due("distance() of 8", () -> digging(7), PushdownGameSolver::distance, -4);
    }

    @Boundary(promise = 27, sentence = "Returns the least number n from 0 to 7 such that the reacher can force that a"
            + " target state is reached after at most n moves")
    static void shortestOrLongestWay() {
        String[] orders = {"r0,0,1,0;r0,0,2,0;", "r0,0,2,0;r0,0,1,0;", "r0,0,1,0;r0,0,2,0;r0,0,1,0;",
            "r0,0,2,0;r0,0,1,0;r0,0,2,0;"};
        for (String order : orders) {
            PushdownGameSolver x = Check.configured("g4,1;t3;r1,0,2,0;r2,0,3;" + order);
            Check.due("distance() of the reacher with " + order, x.distance(), 2);
            x.setOwner(0, 1);
            Check.due("distance() of the opponent with " + order, x.distance(), 3);
        }
        PushdownGameSolver y = Check.configured(Check.sixteenRules());
        y.setTarget(0, 1);
        Check.placed(y, 3, 0);
        Check.due("distance() with 16 rules", y.distance(), 1);
    }

    @Boundary(promise = 27,
            sentence = "(a configuration without playable rules, whose state is not a target, has none)")
    static void distanceWithoutRules() {
        for (int owner = 0; owner < 2; owner++) {
            PushdownGameSolver x = Check.configured("g2,2;t1;r0,1,1;");
            x.setOwner(0, owner);
            Check.due("distance() without a rule for the top", x.distance(), -4);
            x.place(0);
            Check.due("distance() with an empty stack", x.distance(), -4);
            x.push(1);
            Check.due("distance() with a rule for the top", x.distance(), 1);
            x.place(1);
            Check.due("distance() in a target with an empty stack", x.distance(), 0);
            x.push(0);
            Check.due("distance() in a target without a rule", x.distance(), 0);
        }
        PushdownGameSolver z = Check.configured("g4,2;t3;r0,1,1;r0,1,0,0;r0,0,2,0;r2,0,3;r1,0,3;");
        Check.placed(z, 0, 1);
        Check.due("distance() where the shorter way empties the stack", z.distance(), 3);
        PushdownGameSolver y = Check.configured("g3,1;o0;t1;r0,0,1;r0,0,2,0;");
        Check.due("distance() where the opponent goes where no rule is", y.distance(), -4);
    }

    @Boundary(promise = 27, sentence = "NOT_FOUND if there is none")
    static void noDistance() {
        Refused.due("distance() without a target", () -> Check.configured("g1,1;r0,0,0,0;"),
                PushdownGameSolver::distance, -4);
        Refused.due("distance() with an empty stack", BoundarySolveTest::placedOnly, PushdownGameSolver::distance, -4);
        Refused.due("distance() over 11 zeros", () -> digging(11), PushdownGameSolver::distance, -4);
        Check.due("distance() over 6 zeros", digging(6).distance(), 7);
    }

    @Boundary(promise = 28, sentence = "of several such rules the one with the lowest number")
    static void lowestOfSeveral() {
        PushdownGameSolver x = Check.configured("g3,2;t2;r1,0,2;r0,0,1,0;r0,0,2;r0,0,2;r0,1,1,0;r0,1,1,0;r0,1,1,0;");
        Check.due("bestRule() of a longer and two shorter", x.bestRule(), 2);
        x.removeRule(2);
        Check.due("bestRule() with the first of them removed", x.bestRule(), 2);
        x.removeRule(2);
        Check.due("bestRule() of the longer alone", x.bestRule(), 1);
        Check.placed(x, 0, 1);
        Check.due("bestRule() of three alike", x.bestRule(), 2);
    }

    @Boundary(promise = 28,
            sentence = "The limit of 12 symbols does not apply here, and the present state may be a target.")
    static void bestRuleOverFullStack() {
        PushdownGameSolver x = Check.configured("g3,1;t2;r0,0,1,0,0;r1,0,2,0,0;");
        Check.placed(x, 0, 0, 0, 0, 0, 0, 0, 0, 0, 0, 0, 0, 0);
        Check.due("bestRule() that cannot be played", x.bestRule(), 0);
        Check.due("play(0) on 12 symbols", x.play(0), -3);
        PushdownGameSolver y = Check.configured("g3,2;t0;t2;r0,0,1,0;r0,0,1,1;r1,1,2;r1,0,1,1;");
        Check.due("bestRule() in a target, to leave it shortly", y.bestRule(), 1);
        Check.due("distance() in it", y.distance(), 0);
        y.addRule(0, 0, 0, -1, -1);
        Check.due("bestRule() in a target, to stay in it", y.bestRule(), 4);
        y.place(0);
        Check.due("bestRule() in a target with an empty stack", y.bestRule(), -4);
    }

    @Boundary(promise = 28, sentence = "NOT_POSSIBLE if the present state belongs to the opponent")
    static void bestRuleOfOpponent() {
        Refused.due("bestRule() of the opponent", () -> Check.configured("g2,1;o0;t1;r0,0,1;"),
                PushdownGameSolver::bestRule, -2);
        Refused.due("bestRule() of the opponent in a target", () -> Check.configured("g2,1;o0;t0;r0,0,0;"),
                PushdownGameSolver::bestRule, -2);
        Refused.due("bestRule() of the opponent without rules", () -> Check.configured("g2,1;o0;"),
                PushdownGameSolver::bestRule, -2);
        PushdownGameSolver x = Check.configured("g2,1;o0;t1;r0,0,1;");
        x.setOwner(0, 0);
        Check.due("bestRule() of the reacher", x.bestRule(), 0);
        x.setOwner(1, 1);
        Check.due("bestRule() to a state of the opponent", x.bestRule(), 0);
        x.place(0);
        x.setOwner(0, 1);
        Check.due("bestRule() of the opponent with an empty stack", x.bestRule(), -2);
    }

    @Boundary(promise = 28,
            sentence = "NOT_FOUND if there is no playable rule after which distance() would return a number")
    static void noBestRule() {
        Refused.due("bestRule() with an empty stack", BoundarySolveTest::placedOnly, PushdownGameSolver::bestRule, -4);
        Refused.due("bestRule() without rules", () -> Check.configured("g2,1;t1;"), PushdownGameSolver::bestRule, -4);
        Refused.due("bestRule() without a target", () -> Check.configured("g1,1;r0,0,0,0;"),
                PushdownGameSolver::bestRule, -4);
        Refused.due("bestRule() to a distance of 8", () -> digging(8), PushdownGameSolver::bestRule, -4);
        Check.due("bestRule() to a distance of 7", digging(7).bestRule(), 0);
        Check.due("distance() before it", digging(7).distance(), -4);
        Check.due("bestRule() to a distance of 0", digging(0).bestRule(), 1);
    }

    @Boundary(promise = 29, sentence = "Returns the number of rounds.")
    static void fewestAndMostRounds() {
        Check.due("rounds() without rules", Check.configured("g1,1;").rounds(), 0);
        Check.due("rounds() of one rule", Check.configured("g1,1;r0,0,0;").rounds(), 1);
        PushdownGameSolver x = Check.configured("g1,1;r0,0,0;");
        x.setTarget(0, 1);
        Check.due("rounds() after setTarget", x.rounds(), 0);
        x.undo();
        Check.due("rounds() after undo()", x.rounds(), 1);
        x.removeRule(0);
        Check.due("rounds() after removeRule", x.rounds(), 0);
        x.place(0);
        Check.due("rounds() with an empty stack", x.rounds(), 0);
    }

    @Boundary(promise = 30, sentence = "`state`: an existing state")
    static void stateOfPairCounted() {
        for (int state = 0; state < 4; state++) {
            Check.due("forcingSetCount(" + state + ", 2)", sixSets().forcingSetCount(state, 2), state == 1 ? 1 : 0);
        }
        for (int state : Check.outside(0, 3)) {
            Check.due("forcingSetCount(" + state + ", 0)", sixSets().forcingSetCount(state, 0), -1);
        }
        Check.due("forcingSetCount(1, 0) of one state", Check.configured("g1,3;").forcingSetCount(1, 0), -1);
    }

    @Boundary(promise = 30, sentence = "`symbol`: an existing symbol")
    static void symbolOfPairCounted() {
        int[] counts = {6, 0, 0};
        for (int symbol = 0; symbol < 3; symbol++) {
            Check.due("forcingSetCount(0, " + symbol + ")", sixSets().forcingSetCount(0, symbol), counts[symbol]);
        }
        for (int symbol : Check.outside(0, 2)) {
            Check.due("forcingSetCount(0, " + symbol + ")", sixSets().forcingSetCount(0, symbol), -1);
        }
        Check.due("forcingSetCount(0, 1) of one symbol", Check.configured("g4,1;").forcingSetCount(0, 1), -1);
    }

    @Boundary(promise = 30, sentence = "Returns the number of its minimal forcing sets")
    static void fewestAndMostSets() {
        PushdownGameSolver x = sixSets();
        Check.due("forcingSetCount(0, 0) of six", x.forcingSetCount(0, 0), 6);
        Check.due("forcingSetCount(3, 0) of none", x.forcingSetCount(3, 0), 0);
        Check.due("forcingSetCount(1, 1) of one", x.forcingSetCount(1, 1), 1);
        Check.due("forcingSetCount(2, 0) of two", x.forcingSetCount(2, 0), 2);
        x.setTarget(0, 1);
        Check.due("forcingSetCount(0, 0) of a target", x.forcingSetCount(0, 0), 1);
    }

    @Boundary(promise = 30, sentence = "INVALID_ARGUMENT if an argument is out of range")
    static void pairOutOfRange() {
        Refused.due("forcingSetCount(4, 0)", x -> x.forcingSetCount(4, 0), -1);
        Refused.due("forcingSetCount(-1, 0)", x -> x.forcingSetCount(-1, 0), -1);
        Refused.due("forcingSetCount(0, 3)", x -> x.forcingSetCount(0, 3), -1);
        Refused.due("forcingSetCount(0, -1)", x -> x.forcingSetCount(0, -1), -1);
        Check.due("forcingSetCount(3, 2)", Refused.busy().forcingSetCount(3, 2), 1);
    }

    @Boundary(promise = 31, sentence = "`state`: an existing state")
    static void stateOfPair() {
        PushdownGameSolver x = Check.configured("g4,1;t0;t1;t2;t3;");
        for (int state = 0; state < 4; state++) {
            Check.due("forcingSet(" + state + ", 0, 0)", x.forcingSet(state, 0, 0), 0);
        }
        for (int state : Check.outside(0, 3)) {
            Check.due("forcingSet(" + state + ", 0, 0)", x.forcingSet(state, 0, 0), -1);
        }
    }

    @Boundary(promise = 31, sentence = "`symbol`: an existing symbol")
    static void symbolOfPair() {
        PushdownGameSolver x = Check.configured("g1,3;t0;");
        for (int symbol = 0; symbol < 3; symbol++) {
            Check.due("forcingSet(0, " + symbol + ", 0)", x.forcingSet(0, symbol, 0), 0);
        }
        for (int symbol : Check.outside(0, 2)) {
            Check.due("forcingSet(0, " + symbol + ", 0)", x.forcingSet(0, symbol, 0), -1);
        }
    }

    @Boundary(promise = 31, sentence = "`index`: 0 for the set with the least bit mask, 1 for the next one, and so on")
    static void indexOfSet() {
        Check.sets(sixSets(), 0, 0, 3, 5, 6, 9, 10, 12);
        Check.sets(sixSets(), 2, 0, 1, 2);
        Check.sets(sixSets(), 2, 1, 4, 8);
        Check.sets(Check.configured("g4,1;r0,0,3;r0,0,0;r0,0,2;"), 0, 0, 1, 4, 8);
    }

    @Boundary(promise = 31, sentence = "INVALID_ARGUMENT if state or symbol is out of range or index is negative")
    static void setOutOfRange() {
        Refused.due("forcingSet(4, 0, 0)", x -> x.forcingSet(4, 0, 0), -1);
        Refused.due("forcingSet(-1, 0, 0)", x -> x.forcingSet(-1, 0, 0), -1);
        Refused.due("forcingSet(0, 3, 0)", x -> x.forcingSet(0, 3, 0), -1);
        Refused.due("forcingSet(0, -1, 0)", x -> x.forcingSet(0, -1, 0), -1);
        Refused.due("forcingSet(3, 0, -1)", x -> x.forcingSet(3, 0, -1), -1);
        Refused.due("forcingSet(3, 0, min)", x -> x.forcingSet(3, 0, Integer.MIN_VALUE), -1);
        Check.due("forcingSet(3, 0, 0)", Refused.busy().forcingSet(3, 0, 0), 0);
    }

    @Boundary(promise = 31, sentence = "NOT_FOUND if there is no such set")
    static void noSuchSet() {
        Refused.due("forcingSet(0, 0, 6) of six", BoundarySolveTest::sixSets, x -> x.forcingSet(0, 0, 6), -4);
        Refused.due("forcingSet(3, 0, 0) of none", BoundarySolveTest::sixSets, x -> x.forcingSet(3, 0, 0), -4);
        Refused.due("forcingSet(0, 0, max)", BoundarySolveTest::sixSets,
                x -> x.forcingSet(0, 0, Integer.MAX_VALUE), -4);
        for (int index : new int[] {7, 15, 16, 32, 64, 256, 65536, 1 << 30}) {
            Check.due("forcingSet(0, 0, " + index + ")", sixSets().forcingSet(0, 0, index), -4);
        }
        Check.due("forcingSet(0, 0, 5) of six", sixSets().forcingSet(0, 0, 5), 12);
        Refused.due("forcingSet(3, 0, 1) of a target", x -> x.forcingSet(3, 0, 1), -4);
    }

    @Boundary(promise = 32, sentence = "`state`: an existing state")
    static void stateOfStacks() {
        PushdownGameSolver x = Check.configured("g4,2;t0;t3;");
        for (int state = 0; state < 4; state++) {
            Check.due("winningStacks(" + state + ", 3)", x.winningStacks(state, 3), state % 3 == 0 ? 8 : 0);
        }
        for (int state : Check.outside(0, 3)) {
            Check.due("winningStacks(" + state + ", 3)", x.winningStacks(state, 3), -1);
        }
    }

    @Boundary(promise = 32, sentence = "`size`: the number of symbols of the stacks, 0 to 60")
    static void sizeOfStacks() {
        PushdownGameSolver x = Check.configured(Check.DIG);
        for (int size = 0; size <= 60; size++) {
            Check.due("winningStacks(0, " + size + ")", x.winningStacks(0, size), (1L << size) - 1);
            Check.due("winningStacks(1, " + size + ")", x.winningStacks(1, size), 1L << size);
        }
        for (int size : Check.outside(0, 60)) {
            Check.due("winningStacks(0, " + size + ")", x.winningStacks(0, size), -1);
        }
        PushdownGameSolver one = Check.configured("g1,1;t0;");
        Check.due("winningStacks(0, 60) of one symbol", one.winningStacks(0, 60), 1);
        Check.due("winningStacks(0, 61) of one symbol", one.winningStacks(0, 61), -1);
    }

    @Boundary(promise = 32,
            sentence = "Returns the number of stacks of this size with which the reacher wins")
    static void fewestAndMostStacks() {
        PushdownGameSolver x = Check.configured("g3,2;t2;r0,0,0;");
        for (int size : new int[] {0, 1, 12, 13, 60}) {
            Check.due("winningStacks(0, " + size + ") of none", x.winningStacks(0, size), 0);
            Check.due("winningStacks(2, " + size + ") of all", x.winningStacks(2, size), 1L << size);
        }
        x.addRule(0, 0, 2, -1, -1);
        Check.due("winningStacks(0, 0) of none", x.winningStacks(0, 0), 0);
        Check.due("winningStacks(0, 1) of one", x.winningStacks(0, 1), 1);
        Check.due("winningStacks(0, 60) of half", x.winningStacks(0, 60), 1L << 59);
    }

    @Boundary(promise = 32, sentence = "INVALID_ARGUMENT if an argument is out of range")
    static void stacksOutOfRange() {
        Refused.due("winningStacks(4, 0)", x -> x.winningStacks(4, 0), -1);
        Refused.due("winningStacks(-1, 0)", x -> x.winningStacks(-1, 0), -1);
        Refused.due("winningStacks(0, 61)", x -> x.winningStacks(0, 61), -1);
        Refused.due("winningStacks(0, -1)", x -> x.winningStacks(0, -1), -1);
        Check.due("winningStacks(3, 0)", Refused.busy().winningStacks(3, 0), 1);
        Check.due("winningStacks(0, 0)", Refused.busy().winningStacks(0, 0), 0);
    }

    @Boundary(promise = 32, sentence = "OVERFLOW if the number, or the number of all stacks of this size (the number of"
            + " symbols to the power of size), does not fit into a long")
    static void beyondLong() {
        PushdownGameSolver three = Check.configured("g2,3;t1;");
        Check.due("winningStacks(1, 39) of all", three.winningStacks(1, 39), POWER_39_OF_3);
        Check.due("winningStacks(0, 39) of none", three.winningStacks(0, 39), 0);
        for (int size = 40; size <= 60; size++) {
            Check.due("winningStacks(1, " + size + ") of all", three.winningStacks(1, size), -5);
            Check.due("winningStacks(0, " + size + ") of none", three.winningStacks(0, size), -5);
        }
        Refused.due("winningStacks(0, 40)", x -> x.winningStacks(0, 40), -5);
        Refused.due("winningStacks(3, 60)", x -> x.winningStacks(3, 60), -5);
        PushdownGameSolver two = Check.configured("g2,2;t1;");
        Check.due("winningStacks(1, 60) of two symbols", two.winningStacks(1, 60), 1L << 60);
        PushdownGameSolver one = Check.configured("g2,1;t1;");
        Check.due("winningStacks(1, 60) of one symbol", one.winningStacks(1, 60), 1);
    }
}
