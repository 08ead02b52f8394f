import java.math.BigInteger;
import java.util.ArrayList;
import java.util.HashMap;
import java.util.HashSet;
import java.util.List;
import java.util.Map;
import java.util.Set;
import java.util.TreeMap;
import java.util.TreeSet;
import java.util.regex.Matcher;
import java.util.regex.Pattern;

/**
 * The document word by word, slow and without a thought of the solver's way of holding things:
 * sets are listed one by one, undoing goes through whole copies, forms are regular expressions.
 */
final class ReferenceModel {
    private static final Pattern SIZES = Pattern.compile("g([1-4]),([1-3]);");
    private static final Pattern MARK = Pattern.compile("([ot])([0-9]);");
    private static final Pattern RULE = Pattern.compile("r([0-9]),([0-9]),([0-9])(?:,([0-9])(?:,([0-9]))?)?;");

    private record Rule(int state, int top, int next, List<Integer> word) {
    }

    /** All that a change may touch. */
    private static final class Held {
        int states;
        int symbols;
        Set<Integer> opponents = new TreeSet<>();
        Set<Integer> targets = new TreeSet<>();
        List<Rule> rules = new ArrayList<>();
        int state = 0;
        List<Integer> stack = new ArrayList<>(List.of(0));

        Held copy() {
            Held other = new Held();
            other.states = states;
            other.symbols = symbols;
            other.opponents = new TreeSet<>(opponents);
            other.targets = new TreeSet<>(targets);
            other.rules = new ArrayList<>(rules);
            other.state = state;
            other.stack = new ArrayList<>(stack);
            return other;
        }
    }

    private String text = "";
    private Held held;
    private List<Held> changes = new ArrayList<>();
    private int malformedAt;
    private List<Map<String, Set<Set<Integer>>>> roundsOfHeld;

    ReferenceModel() {
        text = "g3,2;o1;t2;r0,0,1,0,1;r0,1,0;r1,0,0;r1,0,1,1;r1,1,2;r1,1,0,1;";
        configure();
        text = "";
    }

    int append(int character) {
        if (character < 32 || character > 126) {
            return -1;
        }
        if (text.length() == 200) {
            return -3;
        }
        text = text + (char) character;
        return text.length();
    }

    int clearText() {
        int length = text.length();
        text = "";
        return length;
    }

    int firstError() {
        read();
        return malformedAt;
    }

    int configure() {
        Held read = read();
        if (text.isEmpty() || malformedAt != -4) {
            return -2;
        }
        held = read;
        changes = new ArrayList<>();
        roundsOfHeld = null;
        return held.rules.size();
    }

    private Held read() {
        Held draft = new Held();
        int at = 0;
        malformedAt = -4;
        while (at < text.length()) {
            int semicolon = text.indexOf(';', at);
            String statement = semicolon < 0 ? text.substring(at) : text.substring(at, semicolon + 1);
            if (!readStatement(draft, statement, at == 0)) {
                malformedAt = at;
                return draft;
            }
            at += statement.length();
        }
        return draft;
    }

    private static boolean readStatement(Held draft, String statement, boolean first) {
        Matcher sizes = SIZES.matcher(statement);
        if (first || sizes.matches()) {
            if (!first || !sizes.matches()) {
                return false;
            }
            draft.states = Integer.parseInt(sizes.group(1));
            draft.symbols = Integer.parseInt(sizes.group(2));
            return true;
        }
        Matcher mark = MARK.matcher(statement);
        if (mark.matches()) {
            int state = Integer.parseInt(mark.group(2));
            (mark.group(1).equals("o") ? draft.opponents : draft.targets).add(state);
            return state < draft.states;
        }
        Matcher rule = RULE.matcher(statement);
        if (!rule.matches()) {
            return false;
        }
        int[] numbers = new int[5];
        for (int i = 0; i < 5; i++) {
            numbers[i] = rule.group(i + 1) == null ? -1 : Integer.parseInt(rule.group(i + 1));
        }
        return newRule(draft, numbers) >= 0;
    }

    private static int newRule(Held to, int[] numbers) {
        int upper = numbers[3];
        int lower = numbers[4];
        boolean exists = inRange(numbers[0], to.states) && inRange(numbers[1], to.symbols)
                && inRange(numbers[2], to.states) && (upper == -1 || inRange(upper, to.symbols))
                && (lower == -1 || inRange(lower, to.symbols));
        if (!exists || upper == -1 && lower != -1) {
            return -1;
        }
        long alike = to.rules.stream().filter(r -> r.state == numbers[0] && r.top == numbers[1]).count();
        if (to.rules.size() == 16 || alike == 3) {
            return -3;
        }
        List<Integer> word = new ArrayList<>();
        if (upper != -1) {
            word.add(upper);
        }
        if (lower != -1) {
            word.add(lower);
        }
        to.rules.add(new Rule(numbers[0], numbers[1], numbers[2], word));
        return to.rules.size() - 1;
    }

    private static boolean inRange(int number, int end) {
        return number >= 0 && number < end;
    }

    private void changing() {
        changes.add(held.copy());
        if (changes.size() > 6) {
            changes.remove(0);
        }
        roundsOfHeld = null;
    }

    int addRule(int state, int top, int next, int upper, int lower) {
        int answer = newRule(held.copy(), new int[] {state, top, next, upper, lower});
        if (answer >= 0) {
            changing();
            newRule(held, new int[] {state, top, next, upper, lower});
        }
        return answer;
    }

    int removeRule(int rule) {
        if (!inRange(rule, held.rules.size())) {
            return -1;
        }
        changing();
        held.rules.remove(rule);
        return held.rules.size();
    }

    int setOwner(int state, int player) {
        if (!inRange(state, held.states) || !inRange(player, 2)) {
            return -1;
        }
        changing();
        boolean was = player == 1 ? !held.opponents.add(state) : held.opponents.remove(state);
        return was ? 1 : 0;
    }

    int setTarget(int state, int target) {
        if (!inRange(state, held.states) || !inRange(target, 2)) {
            return -1;
        }
        changing();
        boolean was = target == 1 ? !held.targets.add(state) : held.targets.remove(state);
        return was ? 1 : 0;
    }

    int place(int state) {
        if (!inRange(state, held.states)) {
            return -1;
        }
        changing();
        int size = held.stack.size();
        held.state = state;
        held.stack.clear();
        return size;
    }

    int push(int symbol) {
        if (!inRange(symbol, held.symbols)) {
            return -1;
        }
        if (held.stack.size() == 12) {
            return -3;
        }
        changing();
        held.stack.add(0, symbol);
        return held.stack.size();
    }

    int play(int rule) {
        if (!inRange(rule, held.rules.size())) {
            return -1;
        }
        Rule played = held.rules.get(rule);
        if (!playable(held.state, held.stack).contains(played) || !isPlayable(played, held.state, held.stack)) {
            return -2;
        }
        List<Integer> stack = stackAfter(played, held.stack);
        if (stack.size() > 12) {
            return -3;
        }
        changing();
        held.state = played.next;
        held.stack = stack;
        return held.state;
    }

    int undo() {
        if (changes.isEmpty()) {
            return -2;
        }
        held = changes.remove(changes.size() - 1);
        roundsOfHeld = null;
        return changes.size();
    }

    int ruleCount() {
        return held.rules.size();
    }

    int ruleState(int rule) {
        return inRange(rule, held.rules.size()) ? held.rules.get(rule).state : -1;
    }

    int ruleTop(int rule) {
        return inRange(rule, held.rules.size()) ? held.rules.get(rule).top : -1;
    }

    int ruleNext(int rule) {
        return inRange(rule, held.rules.size()) ? held.rules.get(rule).next : -1;
    }

    int ruleSymbol(int rule, int index) {
        if (!inRange(rule, held.rules.size()) || !inRange(index, 2)) {
            return -1;
        }
        List<Integer> word = held.rules.get(rule).word;
        return index < word.size() ? word.get(index) : -4;
    }

    int ownerOf(int state) {
        return inRange(state, held.states) ? (held.opponents.contains(state) ? 1 : 0) : -1;
    }

    int isTarget(int state) {
        return inRange(state, held.states) ? (held.targets.contains(state) ? 1 : 0) : -1;
    }

    int presentState() {
        return held.state;
    }

    int stackSize() {
        return held.stack.size();
    }

    int stackSymbol(int depth) {
        return inRange(depth, held.stack.size()) ? held.stack.get(depth) : -1;
    }

    int playableRules() {
        return playable(held.state, held.stack).size();
    }

    int winner() {
        return winningRound() >= 0 ? 0 : 1;
    }

    int winningRound() {
        List<Map<String, Set<Set<Integer>>>> rounds = allRounds();
        for (int r = 0; r < rounds.size(); r++) {
            if (accepted(rounds.get(r), held.state, held.stack)) {
                return r;
            }
        }
        return -4;
    }

    int distance() {
        return distanceOf(held.state, held.stack);
    }

    int bestRule() {
        if (held.opponents.contains(held.state)) {
            return -2;
        }
        int best = -4;
        int least = 8;
        for (int i = 0; i < held.rules.size(); i++) {
            Rule rule = held.rules.get(i);
            if (isPlayable(rule, held.state, held.stack)) {
                int moves = distanceOf(rule.next, stackAfter(rule, held.stack));
                if (moves >= 0 && moves < least) {
                    least = moves;
                    best = i;
                }
            }
        }
        return best;
    }

    int rounds() {
        return allRounds().size() - 1;
    }

    int forcingSetCount(int state, int symbol) {
        if (!inRange(state, held.states) || !inRange(symbol, held.symbols)) {
            return -1;
        }
        return lastRound().get(pair(state, symbol)).size();
    }

    int forcingSet(int state, int symbol, int index) {
        if (!inRange(state, held.states) || !inRange(symbol, held.symbols) || index < 0) {
            return -1;
        }
        TreeSet<Integer> masks = new TreeSet<>();
        for (Set<Integer> set : lastRound().get(pair(state, symbol))) {
            masks.add(set.stream().mapToInt(v -> 1 << v).sum());
        }
        return index < masks.size() ? new ArrayList<>(masks).get(index) : -4;
    }

    long winningStacks(int state, int size) {
        if (!inRange(state, held.states) || size < 0 || size > 60) {
            return -1;
        }
        if (BigInteger.valueOf(held.symbols).pow(size).bitLength() > 63) {
            return -5;
        }
        if (size <= 4) {
            return countOneByOne(state, size, new ArrayList<>());
        }
        Map<Set<Integer>, BigInteger> counts = new HashMap<>();
        counts.put(new TreeSet<>(held.targets), BigInteger.ONE);
        for (int i = 0; i < size; i++) {
            counts = withOneMore(counts);
        }
        BigInteger sum = BigInteger.ZERO;
        for (Map.Entry<Set<Integer>, BigInteger> entry : counts.entrySet()) {
            sum = entry.getKey().contains(state) ? sum.add(entry.getValue()) : sum;
        }
        return sum.longValueExact();
    }

    private long countOneByOne(int state, int size, List<Integer> stack) {
        if (stack.size() == size) {
            return accepted(lastRound(), state, stack) ? 1 : 0;
        }
        long count = 0;
        for (int symbol = 0; symbol < held.symbols; symbol++) {
            List<Integer> higher = new ArrayList<>(stack);
            higher.add(0, symbol);
            count += countOneByOne(state, size, higher);
        }
        return count;
    }

    private Map<Set<Integer>, BigInteger> withOneMore(Map<Set<Integer>, BigInteger> counts) {
        Map<Set<Integer>, BigInteger> higher = new HashMap<>();
        for (Map.Entry<Set<Integer>, BigInteger> entry : counts.entrySet()) {
            for (int symbol = 0; symbol < held.symbols; symbol++) {
                Set<Integer> accepted = new TreeSet<>(held.targets);
                for (int state = 0; state < held.states; state++) {
                    for (Set<Integer> set : lastRound().get(pair(state, symbol))) {
                        if (entry.getKey().containsAll(set)) {
                            accepted.add(state);
                        }
                    }
                }
                higher.merge(accepted, entry.getValue(), BigInteger::add);
            }
        }
        return higher;
    }

    private static boolean isPlayable(Rule rule, int state, List<Integer> stack) {
        return !stack.isEmpty() && rule.state == state && rule.top == stack.get(0);
    }

    private List<Rule> playable(int state, List<Integer> stack) {
        return held.rules.stream().filter(rule -> isPlayable(rule, state, stack)).toList();
    }

    private static List<Integer> stackAfter(Rule rule, List<Integer> stack) {
        List<Integer> after = new ArrayList<>(rule.word);
        after.addAll(stack.subList(1, stack.size()));
        return after;
    }

    private int distanceOf(int state, List<Integer> stack) {
        for (int n = 0; n <= 7; n++) {
            if (forcedWithin(state, stack, n)) {
                return n;
            }
        }
        return -4;
    }

    private boolean forcedWithin(int state, List<Integer> stack, int n) {
        if (held.targets.contains(state)) {
            return true;
        }
        List<Rule> playable = playable(state, stack);
        if (n == 0 || playable.isEmpty()) {
            return false;
        }
        boolean opponent = held.opponents.contains(state);
        for (Rule rule : playable) {
            if (forcedWithin(rule.next, stackAfter(rule, stack), n - 1) != opponent) {
                return !opponent;
            }
        }
        return opponent;
    }

    private static String pair(int state, int symbol) {
        return state + "/" + symbol;
    }

    private Map<String, Set<Set<Integer>>> lastRound() {
        return allRounds().get(allRounds().size() - 1);
    }

    private List<Map<String, Set<Set<Integer>>>> allRounds() {
        if (roundsOfHeld == null) {
            List<Map<String, Set<Set<Integer>>>> rounds = new ArrayList<>();
            Map<String, Set<Set<Integer>>> next = roundZero();
            while (rounds.isEmpty() || !rounds.get(rounds.size() - 1).equals(next)) {
                rounds.add(next);
                next = roundAfter(next);
            }
            roundsOfHeld = rounds;
        }
        return roundsOfHeld;
    }

    private static Set<Set<Integer>> onlyTheEmptySet() {
        return Set.of(Set.of());
    }

    private Map<String, Set<Set<Integer>>> roundZero() {
        Map<String, Set<Set<Integer>>> sets = new TreeMap<>();
        for (int p = 0; p < held.states; p++) {
            for (int g = 0; g < held.symbols; g++) {
                sets.put(pair(p, g), held.targets.contains(p) ? onlyTheEmptySet() : Set.of());
            }
        }
        return sets;
    }

    private Map<String, Set<Set<Integer>>> roundAfter(Map<String, Set<Set<Integer>>> q) {
        Map<String, Set<Set<Integer>>> sets = new TreeMap<>();
        for (int p = 0; p < held.states; p++) {
            for (int g = 0; g < held.symbols; g++) {
                sets.put(pair(p, g), minimal(setsAfter(q, p, g)));
            }
        }
        return sets;
    }

    private Set<Set<Integer>> setsAfter(Map<String, Set<Set<Integer>>> q, int p, int g) {
        if (held.targets.contains(p)) {
            return onlyTheEmptySet();
        }
        List<Set<Set<Integer>>> yielded = new ArrayList<>();
        for (Rule rule : playable(p, List.of(g))) {
            yielded.add(yieldedBy(q, rule));
        }
        if (held.opponents.contains(p)) {
            return yielded.isEmpty() ? Set.of() : unionsOfOneEach(yielded);
        }
        Set<Set<Integer>> all = new HashSet<>();
        yielded.forEach(all::addAll);
        return all;
    }

    private Set<Set<Integer>> yieldedBy(Map<String, Set<Set<Integer>>> q, Rule rule) {
        if (held.targets.contains(rule.next)) {
            return onlyTheEmptySet();
        }
        if (rule.word.isEmpty()) {
            return Set.of(Set.of(rule.next));
        }
        Set<Set<Integer>> upper = q.get(pair(rule.next, rule.word.get(0)));
        if (rule.word.size() == 1) {
            return upper;
        }
        Set<Set<Integer>> all = new HashSet<>();
        for (Set<Integer> v : upper) {
            List<Set<Set<Integer>>> below = new ArrayList<>();
            for (int state : v) {
                below.add(q.get(pair(state, rule.word.get(1))));
            }
            all.addAll(unionsOfOneEach(below));
        }
        return all;
    }

    private static Set<Set<Integer>> unionsOfOneEach(List<Set<Set<Integer>>> families) {
        Set<Set<Integer>> unions = onlyTheEmptySet();
        for (Set<Set<Integer>> family : families) {
            Set<Set<Integer>> wider = new HashSet<>();
            for (Set<Integer> union : unions) {
                for (Set<Integer> set : family) {
                    Set<Integer> both = new TreeSet<>(union);
                    both.addAll(set);
                    wider.add(both);
                }
            }
            unions = wider;
        }
        return unions;
    }

    private static Set<Set<Integer>> minimal(Set<Set<Integer>> family) {
        Set<Set<Integer>> kept = new HashSet<>();
        for (Set<Integer> set : family) {
            if (family.stream().noneMatch(other -> !other.equals(set) && set.containsAll(other))) {
                kept.add(set);
            }
        }
        return kept;
    }

    private boolean accepted(Map<String, Set<Set<Integer>>> sets, int state, List<Integer> stack) {
        if (held.targets.contains(state)) {
            return true;
        }
        if (stack.isEmpty()) {
            return false;
        }
        List<Integer> below = stack.subList(1, stack.size());
        for (Set<Integer> set : sets.get(pair(state, stack.get(0)))) {
            if (set.stream().allMatch(v -> accepted(sets, v, below))) {
                return true;
            }
        }
        return false;
    }
}
