/** Long runs of calls, drawn by a fixed sequence of numbers, on the solver and on the reference model. */
public final class ReferenceRunsTest {
    private static final int RUNS = 1200;
    private static final int CALLS = 512;

    private final PushdownGameSolver x = new PushdownGameSolver();
    private final ReferenceModel model = new ReferenceModel();
    private final int run;
    private long seed;
    private int calls = 0;

    private ReferenceRunsTest(int number) {
        run = number;
        seed = number * 7919L + 1;
    }

    public static void main(String[] args) {
        for (int i = 0; i < RUNS && Check.wrong() < 20; i++) {
            new ReferenceRunsTest(i).go();
        }
        Check.end();
    }

    private int draw(int below) {
        seed = seed * 6364136223846793005L + 1442695040888963407L;
        return (int) ((seed >>> 33) % below);
    }

    private boolean chance(int percent) {
        return draw(100) < percent;
    }

    private void same(String call, long got, long want) {
        calls++;
        Check.due("run " + run + ", call " + calls + ": " + call, got, want);
    }

    private void go() {
        int start = draw(4);
        if (start == 1) {
            type("g4,3;");
            tryText();
            addRandomRules(16);
        } else if (start >= 2) {
            type(randomGame());
            tryText();
        }
        while (calls < CALLS) {
            anyCall();
        }
    }

    private void type(String text) {
        same("clearText()", x.clearText(), model.clearText());
        for (int i = 0; i < text.length() && calls < CALLS; i++) {
            append(text.charAt(i));
        }
    }

    private void append(int character) {
        same("append(" + character + ")", x.append(character), model.append(character));
    }

    private void tryText() {
        same("firstError()", x.firstError(), model.firstError());
        same("configure()", x.configure(), model.configure());
    }

    private String randomGame() {
        int states = 1 + draw(4);
        int symbols = 1 + draw(3);
        StringBuilder text = new StringBuilder("g" + states + "," + symbols + ";");
        for (int q = 0; q < states; q++) {
            text.append(chance(45) ? "o" + q + ";" : "").append(chance(20) ? "t" + q + ";" : "");
        }
        int rules = 3 + draw(16);
        for (int i = 0; i < rules && text.length() < 190; i++) {
            text.append("r").append(draw(states)).append(',').append(draw(symbols)).append(',').append(draw(states));
            int word = draw(3);
            for (int k = 0; k < word; k++) {
                text.append(',').append(draw(symbols));
            }
            text.append(';');
        }
        if (chance(20)) {
            text.setCharAt(draw(text.length()), "gotr0123459,;; "
                    .charAt(draw(15)));
        }
        return text.toString();
    }

    private void addRandomRules(int count) {
        for (int i = 0; i < count && calls < CALLS; i++) {
            addRule();
        }
    }

    private int state() {
        return chance(90) ? draw(4) : odd(4);
    }

    private int symbol() {
        return chance(90) ? draw(3) : odd(3);
    }

    private int rule() {
        return chance(90) ? draw(16) : odd(16);
    }

    private int odd(int end) {
        int[] values = {-1, end, -2, end + 1, Integer.MAX_VALUE, Integer.MIN_VALUE, 64, -64, 1 << 30};
        return values[draw(values.length)];
    }

    private void addRule() {
        int p = state();
        int g = symbol();
        int q = state();
        int upper = chance(30) ? -1 : symbol();
        int lower = chance(50) ? -1 : symbol();
        same("addRule(" + p + ", " + g + ", " + q + ", " + upper + ", " + lower + ")",
                x.addRule(p, g, q, upper, lower), model.addRule(p, g, q, upper, lower));
    }

    private void anyCall() {
        int kind = draw(100);
        if (kind < 30) {
            change(draw(8));
        } else if (kind < 60) {
            question(draw(10));
        } else if (kind < 75) {
            look(draw(8));
        } else if (kind < 90) {
            setsAndStacks();
        } else if (kind < 99) {
            playSomething();
        } else if (chance(50)) {
            type(randomGame());
            tryText();
        } else {
            append(chance(50) ? 32 + draw(95) : odd(127));
            tryText();
        }
    }

    private void change(int kind) {
        int p = state();
        int bit = chance(90) ? draw(2) : odd(2);
        int g = symbol();
        int r = rule();
        switch (kind) {
            case 0 -> addRule();
            case 1 -> same("removeRule(" + r + ")", x.removeRule(r), model.removeRule(r));
            case 2 -> same("setOwner(" + p + ", " + bit + ")", x.setOwner(p, bit), model.setOwner(p, bit));
            case 3 -> same("setTarget(" + p + ", " + bit + ")", x.setTarget(p, bit), model.setTarget(p, bit));
            case 4 -> same("place(" + p + ")", x.place(p), model.place(p));
            case 5, 6 -> pushSome();
            default -> undoSome();
        }
    }

    private void pushSome() {
        int count = chance(10) ? 13 : 1 + draw(4);
        for (int i = 0; i < count; i++) {
            int g = symbol();
            same("push(" + g + ")", x.push(g), model.push(g));
        }
    }

    private void undoSome() {
        int count = chance(20) ? 8 : 1 + draw(2);
        for (int i = 0; i < count; i++) {
            same("undo()", x.undo(), model.undo());
        }
    }

    private void question(int kind) {
        switch (kind) {
            case 0, 1, 2 -> same("distance()", x.distance(), model.distance());
            case 3, 4 -> same("bestRule()", x.bestRule(), model.bestRule());
            case 5, 6 -> same("winningRound()", x.winningRound(), model.winningRound());
            case 7 -> same("rounds()", x.rounds(), model.rounds());
            case 8 -> same("playableRules()", x.playableRules(), model.playableRules());
            default -> same("winner()", x.winner(), model.winner());
        }
    }

    private void look(int kind) {
        int p = state();
        int r = rule();
        int index = chance(90) ? draw(2) : odd(2);
        int depth = chance(90) ? draw(12) : odd(12);
        switch (kind) {
            case 0 -> same("ruleState(" + r + ")", x.ruleState(r), model.ruleState(r));
            case 1 -> same("ruleTop(" + r + ")", x.ruleTop(r), model.ruleTop(r));
            case 2 -> same("ruleNext(" + r + ")", x.ruleNext(r), model.ruleNext(r));
            case 3 -> same("ruleSymbol(" + r + ", " + index + ")", x.ruleSymbol(r, index), model.ruleSymbol(r, index));
            case 4 -> same("ownerOf(" + p + ")", x.ownerOf(p), model.ownerOf(p));
            case 5 -> same("isTarget(" + p + ")", x.isTarget(p), model.isTarget(p));
            case 6 -> same("stackSymbol(" + depth + ")", x.stackSymbol(depth), model.stackSymbol(depth));
            default -> {
                same("ruleCount()", x.ruleCount(), model.ruleCount());
                same("presentState()", x.presentState(), model.presentState());
                same("stackSize()", x.stackSize(), model.stackSize());
            }
        }
    }

    private void setsAndStacks() {
        int p = state();
        int g = symbol();
        int index = chance(90) ? draw(4) : odd(4);
        int size = chance(90) ? draw(61) : odd(61);
        switch (draw(3)) {
            case 0 -> same("forcingSetCount(" + p + ", " + g + ")", x.forcingSetCount(p, g),
                    model.forcingSetCount(p, g));
            case 1 -> same("forcingSet(" + p + ", " + g + ", " + index + ")", x.forcingSet(p, g, index),
                    model.forcingSet(p, g, index));
            default -> same("winningStacks(" + p + ", " + size + ")", x.winningStacks(p, size),
                    model.winningStacks(p, size));
        }
    }

    private void playSomething() {
        int r = rule();
        for (int i = 0; i < 16 && x.playableRules() > 0 && chance(80); i++) {
            r = i;
            if (x.ruleState(i) == x.presentState() && x.ruleTop(i) == x.stackSymbol(0) && chance(60)) {
                break;
            }
        }
        same("play(" + r + ")", x.play(r), model.play(r));
    }
}
