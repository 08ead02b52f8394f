/** The boundaries that the description names for forcing sets, rounds and acceptance. */
public final class BoundarySetsTest {
    private BoundarySetsTest() {
    }

    public static void main(String[] args) throws ReflectiveOperationException {
        Boundaries.run(BoundarySetsTest.class);
    }

    @Boundary(promise = 0, sentence = "A set of states is written as a bit mask: bit q stands for state q.")
    static void bitMasks() {
        for (int q = 0; q < 4; q++) {
            Check.sets(Check.configured("g4,1;r0,0," + q + ";"), 0, 0, 1 << q);
        }
        Check.sets(Check.configured("g4,1;o0;o1;r0,0,0;r0,0,1;r0,0,3;"), 0, 0, 11);
        Check.sets(Check.configured("g4,2;o0;o1;r0,0,0;r0,0,1;r0,0,1,1;r1,1,2;r1,1,3;"), 0, 0, 15);
        Check.sets(Check.configured("g4,1;t3;r0,0,3;"), 0, 0, 0);
    }

    @Boundary(promise = 0, sentence = "For a state p and a symbol g, a set U is forcing if the reacher, starting in"
            + " state p with a stack that consists of g only, can force that either a target state is reached, or"
            + " the stack becomes empty while the state is in U.")
    static void forcingSets() {
        PushdownGameSolver x = Check.configured("g4,2;o1;t3;r0,0,1,0,1;r1,0,2;r1,0,0;r2,1,2;r0,1,3;");
        Check.sets(x, 1, 0, 5);
        Check.sets(x, 0, 1, 0);
        Check.sets(x, 2, 1, 4);
        Check.sets(x, 0, 0, 4);
        Check.sets(x, 2, 0);
        Check.sets(x, 3, 0, 0);
    }

    @Boundary(promise = 0, sentence = "Every set that contains a forcing set is forcing.")
    static void largerSetsForce() {
        PushdownGameSolver x = Check.configured("g4,2;t3;r0,0,1;r1,1,3;r2,1,3;");
        Check.sets(x, 0, 0, 2);
        Check.placed(x, 0, 0, 1);
        Check.due("the set below holds more than the forcing set", x.winner(), 0);
        Check.placed(x, 0, 0, 0);
        Check.due("the set below does not hold the forcing set", x.winner(), 1);
    }

    @Boundary(promise = 0, sentence = "The solver keeps the minimal forcing sets of each pair (p, g), that is, the"
            + " forcing sets that contain no other forcing set.")
    static void minimalSets() {
        PushdownGameSolver x = Check.configured("g4,1;o1;r1,0,0;r1,0,2;r0,0,1,0;");
        Check.sets(x, 0, 0, 5);
        Check.due("addRule of a set that crosses it", x.addRule(0, 0, 3, -1, -1), 3);
        Check.sets(x, 0, 0, 5, 8);
        Check.due("addRule of a set inside it", x.addRule(0, 0, 2, -1, -1), 4);
        Check.sets(x, 0, 0, 4, 8);
        x.setTarget(2, 1);
        Check.sets(x, 0, 0, 0);
    }

    @Boundary(promise = 0, sentence = "After round 0, a pair (p, g) has the empty set as its only set if p is a target,"
            + " and no set otherwise.")
    static void roundZero() {
        PushdownGameSolver x = Check.configured("g2,2;t1;");
        for (int symbol = 0; symbol < 2; symbol++) {
            Check.sets(x, 1, symbol, 0);
            Check.sets(x, 0, symbol);
            Check.placed(x, 1, symbol);
            Check.due("winningRound() of a target", x.winningRound(), 0);
            Check.placed(x, 0, symbol);
            Check.due("winningRound() of another state", x.winningRound(), -4);
        }
        Check.due("rounds() of them", x.rounds(), 0);
        Check.due("rounds() of four states, of which the first is a target", Check.configured("g4,3;t0;").rounds(), 0);
    }

    @Boundary(promise = 0, sentence = "if p is a target: the empty set;")
    static void setsOfTarget() {
        PushdownGameSolver x = Check.configured("g2,1;t0;r0,0,1;r0,0,0;");
        Check.sets(x, 0, 0, 0);
        x.setOwner(0, 1);
        Check.sets(x, 0, 0, 0);
        x.setTarget(0, 0);
        Check.sets(x, 0, 0, 3);
        x.setOwner(0, 0);
        Check.sets(x, 0, 0, 1, 2);
    }

    @Boundary(promise = 0, sentence = "if p is not a target and belongs to the reacher: all sets that a rule with state"
            + " p and top symbol g yields;")
    static void setsOfReacher() {
        PushdownGameSolver x = Check.configured("g4,2;");
        Check.sets(x, 0, 0);
        x.addRule(0, 1, 3, -1, -1);
        x.addRule(1, 0, 3, -1, -1);
        Check.sets(x, 0, 0);
        int[] next = {2, 0, 1};
        int[][] sets = {{4}, {1, 4}, {1, 2, 4}};
        for (int i = 0; i < 3; i++) {
            x.addRule(0, 0, next[i], -1, -1);
            Check.sets(x, 0, 0, sets[i]);
        }
    }

    @Boundary(promise = 0, sentence = "if p is not a target and belongs to the opponent, and there is a rule with state"
            + " p and top symbol g: all unions that take one yielded set from each such rule (none if one of these"
            + " rules yields no set).")
    static void setsOfOpponent() {
        PushdownGameSolver x = Check.configured("g4,2;o0;");
        Check.sets(x, 0, 0);
        x.addRule(0, 0, 2, -1, -1);
        Check.sets(x, 0, 0, 4);
        x.addRule(0, 0, 1, 1, -1);
        Check.sets(x, 0, 0);
        x.addRule(1, 1, 0, -1, -1);
        Check.sets(x, 0, 0, 5);
        x.addRule(1, 1, 3, -1, -1);
        Check.sets(x, 0, 0, 5, 12);
        x.addRule(0, 0, 3, -1, -1);
        Check.sets(x, 0, 0, 12);
    }

    @Boundary(promise = 0, sentence = "A rule with next state q yields these sets: if q is a target, the empty set;")
    static void nextIsTarget() {
        for (String word : new String[] {"", ",0", ",0,0"}) {
            Check.sets(Check.configured("g2,1;t1;r0,0,1" + word + ";"), 0, 0, 0);
            Check.sets(Check.configured("g2,1;o0;t1;r0,0,1" + word + ";"), 0, 0, 0);
        }
        Check.sets(Check.configured("g2,1;r0,0,1;"), 0, 0, 2);
        Check.sets(Check.configured("g2,1;r0,0,1,0;"), 0, 0);
    }

    @Boundary(promise = 0, sentence = "otherwise, if it pushes no symbol, the set that consists of q;")
    static void pushesNone() {
        Check.sets(Check.configured("g4,1;r0,0,0;"), 0, 0, 1);
        Check.sets(Check.configured("g4,1;r3,0,3;"), 3, 0, 8);
        Check.due("rounds() of it", Check.configured("g4,1;r3,0,3;").rounds(), 1);
    }

    @Boundary(promise = 0, sentence = "if it pushes one symbol a, the sets that the pair (q, a) has in Q;")
    static void pushesOne() {
        PushdownGameSolver x = Check.configured("g4,3;r0,0,3,2;");
        Check.sets(x, 0, 0);
        x.addRule(3, 2, 1, -1, -1);
        Check.sets(x, 0, 0, 2);
        Check.due("rounds() of two rules one behind the other", x.rounds(), 2);
        x.addRule(3, 2, 2, -1, -1);
        Check.sets(x, 0, 0, 2, 4);
        x.addRule(3, 1, 0, -1, -1);
        Check.sets(x, 0, 0, 2, 4);
    }

    @Boundary(promise = 0, sentence = "if it pushes the upper symbol a and the lower symbol b, for each set V that the"
            + " pair (q, a) has in Q, all unions that take for each state v of V one set of the pair (v, b) in Q (the"
            + " empty set if V is empty; none if one of these pairs has no set).")
    static void pushesTwo() {
        PushdownGameSolver x = Check.configured("g4,3;o1;r0,0,1,1,2;r1,1,2;r1,1,3;");
        Check.sets(x, 0, 0);
        x.addRule(2, 2, 0, -1, -1);
        Check.sets(x, 0, 0);
        x.addRule(3, 2, 1, -1, -1);
        Check.sets(x, 0, 0, 3);
        x.addRule(3, 2, 2, -1, -1);
        Check.sets(x, 0, 0, 3, 5);
        x.addRule(2, 2, 2, -1, -1);
        Check.sets(x, 0, 0, 3, 4);
        PushdownGameSolver y = Check.configured("g4,3;t3;r0,0,1,1,2;r1,1,3;");
        Check.sets(y, 0, 0, 0);
        Check.due("rounds() of an empty V", y.rounds(), 2);
        PushdownGameSolver z = Check.configured("g4,3;r0,0,1,1,2;r2,2,0;");
        Check.sets(z, 0, 0);
    }

    @Boundary(promise = 0, sentence = "The number of rounds is the least r for which all pairs have the same sets after"
            + " round r and after round r + 1 (0 if the first round changes nothing).")
    static void numberOfRounds() {
        Check.due("rounds() without rules", Check.configured("g4,3;").rounds(), 0);
        Check.due("rounds() of targets alone", Check.configured("g2,1;t0;t1;r0,0,1;r1,0,0;").rounds(), 0);
        Check.due("rounds() of rules that yield nothing", Check.configured("g2,2;r0,0,1,0;r1,0,0,1;").rounds(), 0);
        Check.due("rounds() of one rule", Check.configured("g2,2;r0,0,1;").rounds(), 1);
        Check.due("rounds() of a rule to a target", Check.configured("g2,2;t1;r0,0,1;").rounds(), 1);
        PushdownGameSolver x = Check.configured("g4,3;");
        for (int i = 0; i < 12; i++) {
            x.addRule(i % 4, i / 4, (i + 1) % 4, i == 11 ? -1 : (i + 1) / 4, -1);
        }
        Check.due("rounds() of a way through all 12 pairs", x.rounds(), 12);
        x.setTarget(0, 1);
        Check.due("rounds() of a way cut by a target", x.rounds(), 3);
    }

    @Boundary(promise = 0, sentence = "The sets after that round are the minimal forcing sets.")
    static void setsAfterLastRound() {
        PushdownGameSolver x = Check.configured("g4,3;");
        for (int i = 0; i < 12; i++) {
            x.addRule(i % 4, i / 4, (i + 1) % 4, i == 11 ? -1 : (i + 1) / 4, -1);
        }
        Check.sets(x, 3, 2, 1);
        Check.sets(x, 0, 0, 1);
        x.removeRule(11);
        Check.sets(x, 3, 2);
        Check.sets(x, 0, 0);
    }

    @Boundary(promise = 0, sentence = "A configuration is accepted after round r if its state is a target, or if its"
            + " stack is not empty and the pair of its state and its top symbol has a set after round r such that,"
            + " for each state v of the set, the configuration with state v and the stack without its top symbol is"
            + " accepted after round r.")
    static void acceptedAfterRound() {
        PushdownGameSolver x = Check.configured("g4,3;o1;t3;r0,0,1,0;r1,0,0;r1,0,2;r0,1,3;r2,1,2,2;r2,2,3;");
        x.place(3);
        Check.due("a target with an empty stack", x.winningRound(), 0);
        x.place(0);
        Check.due("an empty stack", x.winningRound(), -4);
        x.addRule(0, 0, 3, -1, -1);
        Check.due("an empty stack and a rule for symbol 0", x.winningRound(), -4);
        x.undo();
        Check.placed(x, 0, 1);
        Check.due("a set without states", x.winningRound(), 1);
        Check.placed(x, 2, 1);
        Check.due("a set of the second round", x.winningRound(), 2);
        Check.placed(x, 1, 0, 1);
        Check.due("the later of two states below", x.winningRound(), 2);
        Check.placed(x, 1, 0, 2);
        Check.due("one of two states below is not accepted", x.winningRound(), -4);
        Check.placed(x, 1, 0);
        Check.due("nothing below", x.winningRound(), -4);
        Check.placed(x, 0, 0, 1);
        Check.due("the sets of the pair and of those below", x.winningRound(), 2);
    }

    @Boundary(promise = 0, sentence = "The reacher wins a configuration if and only if it is accepted after some round.")
    static void acceptedAfterSomeRound() {
        PushdownGameSolver x = Check.configured("g4,3;o1;t3;r0,0,1,0;r1,0,0;r1,0,2;r0,1,3;r2,1,2,2;r2,2,3;");
        for (int state = 0; state < 4; state++) {
            for (int stack = 0; stack < 9; stack++) {
                Check.placed(x, state, stack % 3, stack / 3);
                Check.holds("winner() and winningRound() agree", (x.winner() == 0) == (x.winningRound() >= 0));
                Check.holds("winningRound() is at most rounds()", x.winningRound() <= x.rounds());
            }
        }
    }
}
