import java.util.stream.IntStream;

/** What the tests of the project share: counting answers, games to ask about, and the exit code. */
final class Check {
    /** State 0 pops zeros and goes from a one to the target: it wins with every stack that has a one. */
    static final String DIG = "g2,2;t1;r0,0,0;r0,1,1;";

    private static int asked = 0;
    private static int wrong = 0;

    private Check() {
    }

    static void due(String call, long got, long want) {
        asked++;
        if (got != want) {
            wrong++;
            System.out.println(call + " answered " + got + ", due is " + want);
        }
    }

    static void holds(String claim, boolean truth) {
        asked++;
        if (!truth) {
            wrong++;
            System.out.println("does not hold: " + claim);
        }
    }

    static int asked() {
        return asked;
    }

    static int wrong() {
        return wrong;
    }

    /** Puts a text into the solver in place of the one it has. */
    static void type(PushdownGameSolver x, String text) {
        x.clearText();
        for (int i = 0; i < text.length(); i++) {
            due("append of character " + i + " of " + text, x.append(text.charAt(i)), i + 1);
        }
    }

    /** A new solver, configured by a text. */
    static PushdownGameSolver configured(String text) {
        PushdownGameSolver x = new PushdownGameSolver();
        type(x, text);
        holds(text + " can be configured", x.configure() >= 0);
        return x;
    }

    static void rule(PushdownGameSolver x, int number, int... wanted) {
        String name = "rule " + number + " part ";
        due(name + 0, x.ruleState(number), wanted[0]);
        due(name + 1, x.ruleTop(number), wanted[1]);
        due(name + 2, x.ruleNext(number), wanted[2]);
        due(name + 3, x.ruleSymbol(number, 0), wanted.length > 3 ? wanted[3] : -4);
        due(name + 4, x.ruleSymbol(number, 1), wanted.length > 4 ? wanted[4] : -4);
    }

    /** Compares state and stack, the top symbol first. */
    static void configuration(PushdownGameSolver x, int state, int... stack) {
        due("presentState()", x.presentState(), state);
        due("stackSize()", x.stackSize(), stack.length);
        for (int i = 0; i < stack.length; i++) {
            due("stackSymbol(" + i + ")", x.stackSymbol(i), stack[i]);
        }
    }

    /** Places a state under a stack that is given with its top symbol first. */
    static void placed(PushdownGameSolver x, int state, int... stack) {
        x.place(state);
        for (int i = stack.length - 1; i >= 0; i--) {
            x.push(stack[i]);
        }
        configuration(x, state, stack);
    }

    /** Numbers outside a range: next to it, far from it, and such as a shift or a cast would bring back into it. */
    static int[] outside(int first, int last) {
        return IntStream.of(first - 1, first - 2, last + 1, last + 2, first - 32, first + 32, last + 32, first - 64,
                first + 64, last + 64, first + 128, first + 256, last + 256, first + 65536, last + 65536,
                first - 65536, 1 << 30, Integer.MIN_VALUE, Integer.MIN_VALUE + 1, Integer.MIN_VALUE + last,
                Integer.MAX_VALUE).filter(n -> n < first || n > last).distinct().toArray();
    }

    static String sixteenRules() {
        StringBuilder text = new StringBuilder("g4,3;");
        for (int i = 0; i < 16; i++) {
            text.append("r").append(i % 4).append(',').append(i / 4 % 3).append(",0;");
        }
        return text.toString();
    }

    static void sets(PushdownGameSolver x, int state, int symbol, int... masks) {
        String pair = state + ", " + symbol;
        due("forcingSetCount(" + pair + ")", x.forcingSetCount(state, symbol), masks.length);
        for (int i = 0; i < masks.length; i++) {
            due("forcingSet(" + pair + ", " + i + ")", x.forcingSet(state, symbol, i), masks[i]);
        }
        due("forcingSet(" + pair + ", at the end)", x.forcingSet(state, symbol, masks.length), -4);
        due("forcingSet(" + pair + ", max)", x.forcingSet(state, symbol, Integer.MAX_VALUE), -4);
        due("forcingSet(" + pair + ", -1)", x.forcingSet(state, symbol, -1), -1);
    }

    static void end() {
        System.out.println(asked + " answers, " + wrong + " wrong");
        if (wrong != 0 || asked == 0) {
            System.exit(1);
        }
    }
}
