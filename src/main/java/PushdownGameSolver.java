/**
 * Decides reachability games on pushdown systems by saturation of forcing sets.
 *
 * <p>Every row is made in a constructor and used again, so that no call makes an object.
 */
public final class PushdownGameSolver {
    public static final int INVALID_ARGUMENT = -1;
    public static final int NOT_POSSIBLE = -2;
    public static final int CAPACITY_EXCEEDED = -3;
    public static final int NOT_FOUND = -4;
    public static final int OVERFLOW = -5;
    public static final int REACHER = 0, OPPONENT = 1;
    public static final int NO_SYMBOL = -1;

    private static final String INITIAL_GAME =
            "g3,2;o1;t2;r0,0,1,0,1;r0,1,0;r1,0,0;r1,0,1,1;r1,1,2;r1,1,0,1;";
    private static final int FIRST_CHARACTER = 32;
    private static final int LAST_CHARACTER = 126;
    private static final int MOST_MOVES = 7;
    private static final int MOST_COUNTED_SIZE = 60;

    private final GameText text;
    private final Game game;
    private final Game draft;
    private final History history;
    private final ForcingSets solved;
    private final ForcingSets replayed;
    private final StackCounter counter;

    public PushdownGameSolver() {
        text = new GameText();
        game = new Game();
        draft = new Game();
        history = new History();
        solved = new ForcingSets(game);
        replayed = new ForcingSets(game);
        counter = new StackCounter();
        for (int i = 0; i < INITIAL_GAME.length(); i++) {
            text.add(INITIAL_GAME.charAt(i));
        }
        text.readInto(draft);
        adoptDraft();
        text.empty();
    }

    public int append(int character) {
        if (character < FIRST_CHARACTER || character > LAST_CHARACTER) {
            return INVALID_ARGUMENT;
        }
        return text.add((char) character);
    }

    public int clearText() {
        return text.empty();
    }

    public int firstError() {
        return text.readInto(draft);
    }

    public int configure() {
        if (text.length == 0 || text.readInto(draft) != NOT_FOUND) {
            return NOT_POSSIBLE;
        }
        adoptDraft();
        return game.used;
    }

    public int addRule(int state, int top, int next, int upper, int lower) {
        int error = game.ruleError(state, top, next, upper, lower);
        if (error != 0) {
            return error;
        }
        beginGameChange();
        game.takeRule(RuleCode.of(state, top, next, upper, lower));
        return game.used - 1;
    }

    public int removeRule(int rule) {
        if (!game.hasRule(rule)) {
            return INVALID_ARGUMENT;
        }
        beginGameChange();
        game.dropRule(rule);
        return game.used;
    }

    public int setOwner(int state, int player) {
        if (!game.hasState(state) || (player != REACHER && player != OPPONENT)) {
            return INVALID_ARGUMENT;
        }
        int before = game.owner(state);
        beginGameChange();
        game.opponents = withBit(game.opponents, state, player == OPPONENT);
        return before;
    }

    public int setTarget(int state, int target) {
        if (!game.hasState(state) || (target != 0 && target != 1)) {
            return INVALID_ARGUMENT;
        }
        int before = bit(game.targets, state);
        beginGameChange();
        game.targets = withBit(game.targets, state, target == 1);
        return before;
    }

    public int place(int state) {
        if (!game.hasState(state)) {
            return INVALID_ARGUMENT;
        }
        int before = game.height;
        history.keep(game);
        game.moveTo(state, 0L, 0);
        return before;
    }

    public int push(int symbol) {
        if (!game.hasSymbol(symbol)) {
            return INVALID_ARGUMENT;
        }
        if (game.height >= Game.MOST_STACKED) {
            return CAPACITY_EXCEEDED;
        }
        history.keep(game);
        game.moveTo(game.state, StackCode.pushed(game.stack, symbol), game.height + 1);
        return game.height;
    }

    public int play(int rule) {
        if (!game.hasRule(rule)) {
            return INVALID_ARGUMENT;
        }
        int code = game.rules[rule];
        if (!game.isPlayable(code)) {
            return NOT_POSSIBLE;
        }
        int height = StackCode.heightAfter(game.height, code);
        if (height > Game.MOST_STACKED) {
            return CAPACITY_EXCEEDED;
        }
        history.keep(game);
        game.moveTo(RuleCode.next(code), StackCode.stackAfter(game.stack, code), height);
        return game.state;
    }

    public int undo() {
        if (history.count == 0) {
            return NOT_POSSIBLE;
        }
        history.restore(game);
        solved.stale = true;
        return history.count;
    }

    public int ruleCount() {
        return game.used;
    }

    public int ruleState(int rule) {
        return game.hasRule(rule) ? RuleCode.state(game.rules[rule]) : INVALID_ARGUMENT;
    }

    public int ruleTop(int rule) {
        return game.hasRule(rule) ? RuleCode.top(game.rules[rule]) : INVALID_ARGUMENT;
    }

    public int ruleNext(int rule) {
        return game.hasRule(rule) ? RuleCode.next(game.rules[rule]) : INVALID_ARGUMENT;
    }

    public int ruleSymbol(int rule, int index) {
        if (!game.hasRule(rule) || (index != 0 && index != 1)) {
            return INVALID_ARGUMENT;
        }
        int code = game.rules[rule];
        int symbol = index == 0 ? RuleCode.upper(code) : RuleCode.lower(code);
        return symbol == NO_SYMBOL ? NOT_FOUND : symbol;
    }

    public int ownerOf(int state) {
        return game.hasState(state) ? game.owner(state) : INVALID_ARGUMENT;
    }

    public int isTarget(int state) {
        return game.hasState(state) ? bit(game.targets, state) : INVALID_ARGUMENT;
    }

    public int presentState() {
        return game.state;
    }

    public int stackSize() {
        return game.height;
    }

    public int stackSymbol(int depth) {
        if (depth < 0 || depth >= game.height) {
            return INVALID_ARGUMENT;
        }
        return StackCode.symbolAt(game.stack, depth);
    }

    public int playableRules() {
        int playable = 0;
        for (int i = 0; i < game.used; i++) {
            if (game.isPlayable(game.rules[i])) {
                playable++;
            }
        }
        return playable;
    }

    public int winner() {
        solved.saturate();
        return solved.accepts(game.state, game.stack, game.height) ? REACHER : OPPONENT;
    }

    public int winningRound() {
        solved.saturate();
        replayed.begin();
        for (int round = 0; round <= solved.round; round++) {
            if (replayed.accepts(game.state, game.stack, game.height)) {
                return round;
            }
            replayed.advance();
        }
        return NOT_FOUND;
    }

    public int distance() {
        solved.saturate();
        return soonestTarget(game.state, game.stack, game.height, MOST_MOVES);
    }

    public int bestRule() {
        if (game.owner(game.state) == OPPONENT) {
            return NOT_POSSIBLE;
        }
        solved.saturate();
        int best = NOT_FOUND;
        // a later rule is the better one only if it is strictly sooner than the best so far
        int limit = MOST_MOVES;
        for (int i = 0; i < game.used && limit >= 0; i++) {
            int code = game.rules[i];
            if (game.isPlayable(code)) {
                int moves = soonestTarget(RuleCode.next(code), StackCode.stackAfter(game.stack, code),
                        StackCode.heightAfter(game.height, code), limit);
                if (moves != NOT_FOUND) {
                    best = i;
                    limit = moves - 1;
                }
            }
        }
        return best;
    }

    public int rounds() {
        solved.saturate();
        return solved.round;
    }

    public int forcingSetCount(int state, int symbol) {
        if (!game.hasState(state) || !game.hasSymbol(symbol)) {
            return INVALID_ARGUMENT;
        }
        solved.saturate();
        return solved.minimalSets(state, symbol);
    }

    public int forcingSet(int state, int symbol, int index) {
        if (!game.hasState(state) || !game.hasSymbol(symbol) || index < 0) {
            return INVALID_ARGUMENT;
        }
        solved.saturate();
        return solved.minimalSet(state, symbol, index);
    }

    public long winningStacks(int state, int size) {
        if (!game.hasState(state) || size < 0 || size > MOST_COUNTED_SIZE) {
            return INVALID_ARGUMENT;
        }
        if (!StackCounter.fits(game.symbols, size)) {
            return OVERFLOW;
        }
        solved.saturate();
        return counter.countAccepted(solved, game, state, size);
    }

    private void adoptDraft() {
        game.copyFrom(draft);
        history.forget();
        solved.stale = true;
    }

    /** Forcing sets hang on rules, owners and targets, but not on the present configuration. */
    private void beginGameChange() {
        history.keep(game);
        solved.stale = true;
    }

    /** Asks the forcing sets first, which spares the search where the opponent wins. */
    private int soonestTarget(int state, long stack, int height, int limit) {
        if (!solved.accepts(state, stack, height)) {
            return NOT_FOUND;
        }
        return Search.movesFrom(game, state, stack, height, limit);
    }

    private static int bit(int mask, int index) {
        return mask >> index & 1;
    }

    private static int withBit(int mask, int index, boolean set) {
        return set ? mask | 1 << index : mask & ~(1 << index);
    }

    /** A state and a symbol as one index; two bits each, so that every pair is an index of a row of PAIRS. */
    private static final class Pair {
        static final int PAIRS = 16;

        static int of(int state, int symbol) {
            return (state & 3) | (symbol & 3) << 2;
        }
    }

    /** A rule as one number, so that rules are kept and copied without objects. */
    private static final class RuleCode {
        static int of(int state, int top, int next, int upper, int lower) {
            return state | top << 2 | next << 4 | (upper + 1) << 6 | (lower + 1) << 8;
        }

        static int state(int code) {
            return code & 3;
        }

        static int top(int code) {
            return code >> 2 & 3;
        }

        static int next(int code) {
            return code >> 4 & 3;
        }

        static int upper(int code) {
            return (code >> 6 & 3) - 1;
        }

        static int lower(int code) {
            return (code >> 8 & 3) - 1;
        }

        static boolean fitsPair(int code, int pair) {
            return (code & 15) == pair;
        }
    }

    /** A stack as one number with two bits a symbol, the top symbol lowest: a search moves on without copies. */
    private static final class StackCode {
        static int symbolAt(long stack, int depth) {
            return (int) (stack >>> 2 * depth) & 3;
        }

        static long pushed(long stack, int symbol) {
            return stack << 2 | symbol;
        }

        static long stackAfter(long stack, int code) {
            long after = stack >>> 2;
            if (RuleCode.lower(code) != NO_SYMBOL) {
                after = pushed(after, RuleCode.lower(code));
            }
            if (RuleCode.upper(code) != NO_SYMBOL) {
                after = pushed(after, RuleCode.upper(code));
            }
            return after;
        }

        static int heightAfter(int height, int code) {
            int upper = RuleCode.upper(code) == NO_SYMBOL ? 0 : 1;
            int lower = RuleCode.lower(code) == NO_SYMBOL ? 0 : 1;
            return height - 1 + upper + lower;
        }
    }

    /** A game together with its present configuration: all that a change may touch. */
    private static final class Game {
        static final int MOST_STATES = 4;
        static final int MOST_SYMBOLS = 3;
        static final int MOST_RULES = 16;
        static final int MOST_RULES_OF_PAIR = 3;
        static final int MOST_STACKED = 12;

        int states;
        int symbols;
        int opponents;
        int targets;
        int used;
        final int[] rules = new int[MOST_RULES];
        int state;
        long stack;
        int height;

        void start() {
            states = 0;
            symbols = 0;
            opponents = 0;
            targets = 0;
            used = 0;
            moveTo(0, 0L, 1);
        }

        void copyFrom(Game other) {
            states = other.states;
            symbols = other.symbols;
            opponents = other.opponents;
            targets = other.targets;
            used = other.used;
            System.arraycopy(other.rules, 0, rules, 0, MOST_RULES);
            moveTo(other.state, other.stack, other.height);
        }

        void moveTo(int newState, long newStack, int newHeight) {
            state = newState;
            stack = newStack;
            height = newHeight;
        }

        boolean hasState(int number) {
            return number >= 0 && number < states;
        }

        boolean hasSymbol(int number) {
            return number >= 0 && number < symbols;
        }

        boolean hasRule(int number) {
            return number >= 0 && number < used;
        }

        int owner(int ofState) {
            return bit(opponents, ofState) == 1 ? OPPONENT : REACHER;
        }

        boolean isPlayable(int code) {
            return height > 0 && RuleCode.fitsPair(code, Pair.of(state, StackCode.symbolAt(stack, 0)));
        }

        /** The error code with which such a rule is refused, or 0. */
        int ruleError(int from, int top, int next, int upper, int lower) {
            if (!hasState(from) || !hasSymbol(top) || !hasState(next) || !isWord(upper, lower)) {
                return INVALID_ARGUMENT;
            }
            if (used >= MOST_RULES || rulesOf(Pair.of(from, top)) >= MOST_RULES_OF_PAIR) {
                return CAPACITY_EXCEEDED;
            }
            return 0;
        }

        private boolean isWord(int upper, int lower) {
            if (upper == NO_SYMBOL) {
                return lower == NO_SYMBOL;
            }
            return hasSymbol(upper) && (lower == NO_SYMBOL || hasSymbol(lower));
        }

        private int rulesOf(int pair) {
            int found = 0;
            for (int i = 0; i < used; i++) {
                if (RuleCode.fitsPair(rules[i], pair)) {
                    found++;
                }
            }
            return found;
        }

        void takeRule(int code) {
            if (used < MOST_RULES) {
                rules[used] = code;
                used++;
            }
        }

        void dropRule(int rule) {
            for (int i = rule + 1; i < used; i++) {
                rules[i - 1] = rules[i];
            }
            used--;
        }
    }

    /** The newest changes: before each of them, the game is kept whole. */
    private static final class History {
        private static final int MOST_CHANGES = 6;

        private final Game[] kept = new Game[MOST_CHANGES];
        private int newest;
        int count;

        History() {
            for (int i = 0; i < MOST_CHANGES; i++) {
                kept[i] = new Game();
            }
        }

        void keep(Game game) {
            newest = (newest + 1) % MOST_CHANGES;
            kept[newest].copyFrom(game);
            count = Math.min(count + 1, MOST_CHANGES);
        }

        void restore(Game game) {
            game.copyFrom(kept[newest]);
            newest = (newest + MOST_CHANGES - 1) % MOST_CHANGES;
            count--;
        }

        void forget() {
            count = 0;
        }
    }

    /** The game text and the reading of its statements. */
    private static final class GameText {
        private static final int MOST_CHARACTERS = 200;

        private final char[] characters = new char[MOST_CHARACTERS];
        int length;

        int add(char character) {
            if (length >= MOST_CHARACTERS) {
                return CAPACITY_EXCEEDED;
            }
            characters[length] = character;
            length++;
            return length;
        }

        int empty() {
            int before = length;
            length = 0;
            return before;
        }

        /** Returns where the first malformed statement begins; if it is NOT_FOUND, the draft holds the game. */
        int readInto(Game draft) {
            draft.start();
            int start = 0;
            for (int i = 0; i < length; i++) {
                if (characters[i] == ';') {
                    if (!readStatement(start, i, draft)) {
                        return start;
                    }
                    start = i + 1;
                }
            }
            return start < length ? start : NOT_FOUND;
        }

        private boolean readStatement(int start, int end, Game draft) {
            if (!isKindWithNumbers(start, end)) {
                return false;
            }
            char kind = characters[start];
            if ((kind == 'g') != (start == 0)) {
                return false;
            }
            int numbers = (end - start) / 2;
            if (kind == 'g') {
                return numbers == 2 && readSizes(start, draft);
            }
            if (kind == 'o' || kind == 't') {
                return numbers == 1 && readMark(start, draft);
            }
            return kind == 'r' && numbers >= 3 && numbers <= 5 && readRule(start, numbers, draft);
        }

        /** Every form is a letter, then single digits with commas between them. */
        private boolean isKindWithNumbers(int start, int end) {
            int size = end - start;
            if (size < 2 || size % 2 != 0) {
                return false;
            }
            for (int i = 1; i < size; i++) {
                char character = characters[start + i];
                boolean fits = i % 2 == 1 ? character >= '0' && character <= '9' : character == ',';
                if (!fits) {
                    return false;
                }
            }
            return true;
        }

        private int number(int start, int index) {
            return characters[start + 1 + 2 * index] - '0';
        }

        private boolean readSizes(int start, Game draft) {
            int states = number(start, 0);
            int symbols = number(start, 1);
            if (states < 1 || states > Game.MOST_STATES || symbols < 1 || symbols > Game.MOST_SYMBOLS) {
                return false;
            }
            draft.states = states;
            draft.symbols = symbols;
            return true;
        }

        private boolean readMark(int start, Game draft) {
            int state = number(start, 0);
            if (!draft.hasState(state)) {
                return false;
            }
            if (characters[start] == 'o') {
                draft.opponents = withBit(draft.opponents, state, true);
            } else {
                draft.targets = withBit(draft.targets, state, true);
            }
            return true;
        }

        private boolean readRule(int start, int numbers, Game draft) {
            int state = number(start, 0);
            int top = number(start, 1);
            int next = number(start, 2);
            int upper = numbers > 3 ? number(start, 3) : NO_SYMBOL;
            int lower = numbers > 4 ? number(start, 4) : NO_SYMBOL;
            if (draft.ruleError(state, top, next, upper, lower) != 0) {
                return false;
            }
            draft.takeRule(RuleCode.of(state, top, next, upper, lower));
            return true;
        }
    }

    /**
     * The sets of all pairs after a round.
     *
     * <p>A pair's sets are held with all that contain one of them: bit U of its family stands for the set U.
     * So the unions that take one set from each of several families are the intersection of the families,
     * and keeping the minimal sets needs no work between the rounds.
     */
    private static final class ForcingSets {
        static final int SETS = 16;
        private static final int EVERY_SET = 0xFFFF;
        private static final int[] SETS_WITH_STATE = {0xAAAA, 0xCCCC, 0xF0F0, 0xFF00};
        // a round that changes anything adds a set to a family, and a family has at most 16
        private static final int MOST_ROUNDS = Pair.PAIRS * SETS;

        private final Game game;
        private final int[] families = new int[Pair.PAIRS];
        private final int[] coming = new int[Pair.PAIRS];
        int round;
        boolean stale = true;

        ForcingSets(Game ofGame) {
            game = ofGame;
        }

        void begin() {
            round = 0;
            // pairs that the game does not have hold no set, whatever an earlier, greater game left in the rows
            for (int pair = 0; pair < Pair.PAIRS; pair++) {
                families[pair] = 0;
                coming[pair] = 0;
            }
            for (int symbol = 0; symbol < game.symbols; symbol++) {
                for (int state = 0; state < game.states; state++) {
                    families[Pair.of(state, symbol)] = bit(game.targets, state) == 1 ? EVERY_SET : 0;
                }
            }
        }

        /** Finds the minimal forcing sets, unless they are still those of the game as it is. */
        void saturate() {
            if (stale) {
                begin();
                boolean changed = true;
                for (int i = 0; i < MOST_ROUNDS && changed; i++) {
                    changed = advance();
                }
                stale = false;
            }
        }

        /** Goes one round on if that changes the sets of a pair; tells whether it did. */
        boolean advance() {
            boolean changed = false;
            for (int symbol = 0; symbol < game.symbols; symbol++) {
                for (int state = 0; state < game.states; state++) {
                    int pair = Pair.of(state, symbol);
                    coming[pair] = familyInNextRound(state, pair);
                    changed = changed || coming[pair] != families[pair];
                }
            }
            if (changed) {
                System.arraycopy(coming, 0, families, 0, Pair.PAIRS);
                round++;
            }
            return changed;
        }

        private int familyInNextRound(int state, int pair) {
            if (bit(game.targets, state) == 1) {
                return EVERY_SET;
            }
            boolean anyRule = false;
            int any = 0;
            int all = EVERY_SET;
            for (int i = 0; i < game.used; i++) {
                int code = game.rules[i];
                if (RuleCode.fitsPair(code, pair)) {
                    int yielded = yieldedBy(code);
                    anyRule = true;
                    any |= yielded;
                    all &= yielded;
                }
            }
            if (game.owner(state) == OPPONENT) {
                return anyRule ? all : 0;
            }
            return any;
        }

        private int yieldedBy(int code) {
            int next = RuleCode.next(code);
            if (bit(game.targets, next) == 1) {
                return EVERY_SET;
            }
            if (RuleCode.upper(code) == NO_SYMBOL) {
                return SETS_WITH_STATE[next];
            }
            int upperFamily = families[Pair.of(next, RuleCode.upper(code))];
            if (RuleCode.lower(code) == NO_SYMBOL) {
                return upperFamily;
            }
            int yielded = 0;
            for (int set = 0; set < SETS; set++) {
                if (bit(upperFamily, set) == 1) {
                    yielded |= commonFamily(set, RuleCode.lower(code));
                }
            }
            return yielded;
        }

        private int commonFamily(int set, int symbol) {
            int common = EVERY_SET;
            for (int state = 0; state < Game.MOST_STATES; state++) {
                if (bit(set, state) == 1) {
                    common &= families[Pair.of(state, symbol)];
                }
            }
            return common;
        }

        boolean accepts(int state, long stack, int height) {
            int accepted = game.targets;
            for (int depth = height - 1; depth >= 0; depth--) {
                accepted = acceptedAbove(accepted, StackCode.symbolAt(stack, depth));
            }
            return bit(accepted, state) == 1;
        }

        /** The states accepted with a symbol on a stack with which the states of the set below are accepted. */
        int acceptedAbove(int below, int symbol) {
            int accepted = game.targets;
            for (int state = 0; state < game.states; state++) {
                if (bit(families[Pair.of(state, symbol)], below) == 1) {
                    accepted = withBit(accepted, state, true);
                }
            }
            return accepted;
        }

        int minimalSets(int state, int symbol) {
            int family = families[Pair.of(state, symbol)];
            int found = 0;
            for (int set = 0; set < SETS; set++) {
                if (isMinimal(family, set)) {
                    found++;
                }
            }
            return found;
        }

        int minimalSet(int state, int symbol, int index) {
            int family = families[Pair.of(state, symbol)];
            int found = 0;
            for (int set = 0; set < SETS; set++) {
                if (isMinimal(family, set)) {
                    if (found == index) {
                        return set;
                    }
                    found++;
                }
            }
            return NOT_FOUND;
        }

        /** As a family holds all that contains one of its sets, taking single states away is enough of a test. */
        private static boolean isMinimal(int family, int set) {
            if (bit(family, set) == 0) {
                return false;
            }
            for (int state = 0; state < Game.MOST_STATES; state++) {
                if (bit(set, state) == 1 && bit(family, withBit(set, state, false)) == 1) {
                    return false;
                }
            }
            return true;
        }
    }

    /** Counts stacks by the set of states that are accepted with them. */
    private static final class StackCounter {
        private static final int SETS = ForcingSets.SETS;

        private final long[] counts = new long[SETS];
        private final long[] higher = new long[SETS];

        static boolean fits(int symbols, int size) {
            long all = 1;
            for (int i = 0; i < size; i++) {
                if (all > Long.MAX_VALUE / Math.max(1, symbols)) {
                    return false;
                }
                all *= symbols;
            }
            return true;
        }

        long countAccepted(ForcingSets sets, Game game, int state, int size) {
            for (int set = 0; set < SETS; set++) {
                counts[set] = set == game.targets ? 1 : 0;
            }
            for (int i = 0; i < size; i++) {
                growByOne(sets, game.symbols);
            }
            long found = 0;
            for (int set = 0; set < SETS; set++) {
                found += bit(set, state) == 1 ? counts[set] : 0;
            }
            return found;
        }

        private void growByOne(ForcingSets sets, int symbols) {
            for (int set = 0; set < SETS; set++) {
                higher[set] = 0;
            }
            for (int set = 0; set < SETS; set++) {
                if (counts[set] != 0) {
                    for (int symbol = 0; symbol < symbols; symbol++) {
                        higher[sets.acceptedAbove(set, symbol)] += counts[set];
                    }
                }
            }
            System.arraycopy(higher, 0, counts, 0, SETS);
        }
    }

    /** The search for the soonest target; the limit of moves is the guard on its depth. */
    private static final class Search {
        private static int movesFrom(Game game, int state, long stack, int height, int limit) {
            if (bit(game.targets, state) == 1) {
                return 0;
            }
            if (height <= 0 || limit <= 0) {
                return NOT_FOUND;
            }
            int pair = Pair.of(state, StackCode.symbolAt(stack, 0));
            if (game.owner(state) == OPPONENT) {
                return latest(game, pair, stack, height, limit);
            }
            return soonest(game, pair, stack, height, limit);
        }

        private static int movesAfter(Game game, int code, long stack, int height, int limit) {
            return movesFrom(game, RuleCode.next(code), StackCode.stackAfter(stack, code),
                    StackCode.heightAfter(height, code), limit);
        }

        private static int soonest(Game game, int pair, long stack, int height, int limit) {
            int best = NOT_FOUND;
            // once a number is found, only a smaller one is of use
            int left = limit - 1;
            for (int i = 0; i < game.used && left >= 0; i++) {
                int code = game.rules[i];
                if (RuleCode.fitsPair(code, pair)) {
                    int moves = movesAfter(game, code, stack, height, left);
                    if (moves != NOT_FOUND) {
                        best = moves + 1;
                        left = moves - 1;
                    }
                }
            }
            return best;
        }

        private static int latest(Game game, int pair, long stack, int height, int limit) {
            int worst = NOT_FOUND;
            for (int i = 0; i < game.used; i++) {
                int code = game.rules[i];
                if (RuleCode.fitsPair(code, pair)) {
                    int moves = movesAfter(game, code, stack, height, limit - 1);
                    if (moves == NOT_FOUND) {
                        return NOT_FOUND;
                    }
                    worst = Math.max(worst, moves + 1);
                }
            }
            return worst;
        }
    }
}
