/** The five examples of the document, each on a new object. */
public final class ExampleTest {
    private ExampleTest() {
    }

    public static void main(String[] args) {
        opponentWinsTheInitialGame();
        minimalForcingSets();
        stateOfTheOpponent();
        stacksWithWhichTheReacherWins();
        errorsAndNoPlayableRule();
        Check.end();
    }

    private static void opponentWinsTheInitialGame() {
        PushdownGameSolver x = new PushdownGameSolver();
        Check.due("1 winner()", x.winner(), 1);
        Check.due("1 winningRound()", x.winningRound(), -4);
        Check.due("1 distance()", x.distance(), -4);
        Check.due("1 bestRule()", x.bestRule(), -4);
        Check.due("1 play(0)", x.play(0), 1);
        Check.due("1 winner() after play", x.winner(), 1);
    }

    private static void minimalForcingSets() {
        PushdownGameSolver x = new PushdownGameSolver();
        Check.due("2 forcingSetCount(0, 1)", x.forcingSetCount(0, 1), 1);
        Check.due("2 forcingSet(0, 1, 0)", x.forcingSet(0, 1, 0), 1);
        Check.due("2 forcingSetCount(2, 0)", x.forcingSetCount(2, 0), 1);
        Check.due("2 forcingSet(2, 0, 0)", x.forcingSet(2, 0, 0), 0);
        Check.due("2 forcingSetCount(1, 1)", x.forcingSetCount(1, 1), 1);
        Check.due("2 rounds()", x.rounds(), 4);
    }

    private static void stateOfTheOpponent() {
        PushdownGameSolver x = new PushdownGameSolver();
        Check.due("3 place(1)", x.place(1), 1);
        Check.due("3 push(1)", x.push(1), 1);
        Check.due("3 playableRules()", x.playableRules(), 2);
        Check.due("3 winner()", x.winner(), 1);
        Check.due("3 distance()", x.distance(), -4);
        Check.due("3 bestRule()", x.bestRule(), -2);
    }

    private static void stacksWithWhichTheReacherWins() {
        PushdownGameSolver x = new PushdownGameSolver();
        Check.due("4 winningStacks(2, 3)", x.winningStacks(2, 3), 8);
        Check.due("4 winningStacks(0, 0)", x.winningStacks(0, 0), 0);
        Check.due("4 winningStacks(0, 3)", x.winningStacks(0, 3), 0);
        Check.due("4 winningStacks(0, 61)", x.winningStacks(0, 61), -1);
    }

    private static void errorsAndNoPlayableRule() {
        PushdownGameSolver x = new PushdownGameSolver();
        Check.due("5 addRule(0, 0, 1, -1, 1)", x.addRule(0, 0, 1, -1, 1), -1);
        Check.due("5 play(2)", x.play(2), -2);
        Check.due("5 forcingSet(2, 0, 1)", x.forcingSet(2, 0, 1), -4);
        Check.due("5 place(0)", x.place(0), 1);
        Check.due("5 playableRules()", x.playableRules(), 0);
        Check.due("5 bestRule()", x.bestRule(), -4);
    }
}
