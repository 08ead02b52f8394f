/** What every test of the project shares: counting answers, typing texts, and the exit code. */
final class Check {
    private static int asked = 0;
    private static int wrong = 0;

    private Check() {
    }

    static void due(String call, long got, long want) {
        asked++;
        if (got != want) {
            wrong++;
            System.out.println(call + " answered " + got + ", due is " + want);
        }
    }

    static void holds(String claim, boolean truth) {
        asked++;
        if (!truth) {
            wrong++;
            System.out.println("does not hold: " + claim);
        }
    }

    static int wrong() {
        return wrong;
    }

    /** Puts a text into the solver in place of the one it has. */
    static void type(PushdownGameSolver x, String text) {
        x.clearText();
        for (int i = 0; i < text.length(); i++) {
            due("append of character " + i + " of " + text, x.append(text.charAt(i)), i + 1);
        }
    }

    /** A new solver, configured by a text. */
    static PushdownGameSolver configured(String text) {
        PushdownGameSolver x = new PushdownGameSolver();
        type(x, text);
        holds(text + " can be configured", x.configure() >= 0);
        return x;
    }

    static void end() {
        System.out.println(asked + " answers, " + wrong + " wrong");
        if (wrong != 0 || asked == 0) {
            System.exit(1);
        }
    }
}
