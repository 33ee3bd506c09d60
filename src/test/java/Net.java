import java.util.ArrayDeque;
import java.util.ArrayList;
import java.util.Arrays;
import java.util.Collections;
import java.util.Comparator;
import java.util.HashMap;
import java.util.LinkedHashMap;
import java.util.List;
import java.util.Map;
import java.util.Set;
import java.util.TreeMap;
import java.util.TreeSet;

/** A machine of the model: plain and slow, written from the document alone. */
final class Net {
    static final int EMPTY = 8;

    /** Thrown by the model where a call is not possible now. */
    static final class Impossible extends RuntimeException {
        private static final long serialVersionUID = 1L;
    }

    /** Thrown by the model where it would be too slow to tell what is due. */
    static final class TooSlow extends RuntimeException {
        private static final long serialVersionUID = 1L;
    }

    record Arc(int from, int upper, int lower, int cost, int to) {
        Arc moved(int by) {
            return new Arc(from + by, upper, lower, cost, to + by);
        }
    }

    private static final Comparator<Arc> ORDER = Comparator.comparingInt(Arc::from)
            .thenComparingInt(Arc::upper).thenComparingInt(Arc::lower)
            .thenComparingInt(Arc::to).thenComparingInt(Arc::cost);

    int states;
    int first;
    final Set<Integer> ends = new TreeSet<>();
    final List<Arc> arcs = new ArrayList<>();

    Net(int states, int first) {
        this.states = states;
        this.first = first;
    }

    void arc(int from, int upper, int lower, int cost, int to) {
        arcs.add(new Arc(from, upper, lower, cost, to));
    }

    boolean isPlain() {
        return arcs.stream().allMatch(arc -> arc.upper == arc.lower && arc.cost == 0);
    }

    // ---- trimming

    /** Returns the machine trimmed and numbered anew, or throws if it is too large. */
    Net trimmed() {
        Set<Integer> kept = reached(first, false);
        Set<Integer> leading = new TreeSet<>();
        for (int end : ends) {
            leading.addAll(reached(end, true));
        }
        kept.retainAll(leading);
        if (kept.isEmpty()) {
            return new Net(1, 0);
        }
        List<Arc> left = new ArrayList<>();
        for (Arc arc : arcs) {
            if (kept.contains(arc.from) && kept.contains(arc.to)) {
                left.add(arc);
            }
        }
        left.sort(ORDER);
        Net made = numbered(left, numbers(left));
        if (made.states > 32 || made.arcs.size() > 160) {
            throw new Impossible();
        }
        return made;
    }

    private Set<Integer> reached(int start, boolean isBack) {
        Set<Integer> reached = new TreeSet<>();
        ArrayDeque<Integer> open = new ArrayDeque<>();
        open.add(start);
        reached.add(start);
        Map<Integer, List<Integer>> next = new HashMap<>();
        for (Arc arc : arcs) {
            next.computeIfAbsent(isBack ? arc.to : arc.from, key -> new ArrayList<>())
                    .add(isBack ? arc.from : arc.to);
        }
        while (!open.isEmpty()) {
            for (int state : next.getOrDefault(open.pop(), List.of())) {
                if (reached.add(state)) {
                    open.add(state);
                }
            }
        }
        return reached;
    }

    private Map<Integer, Integer> numbers(List<Arc> sorted) {
        Map<Integer, Integer> numbers = new HashMap<>();
        List<Integer> found = new ArrayList<>(List.of(first));
        numbers.put(first, 0);
        for (int next = 0; next < found.size(); next++) {
            for (Arc arc : sorted) {
                if (arc.from == found.get(next) && !numbers.containsKey(arc.to)) {
                    numbers.put(arc.to, found.size());
                    found.add(arc.to);
                }
            }
        }
        return numbers;
    }

    private Net numbered(List<Arc> sorted, Map<Integer, Integer> numbers) {
        Net made = new Net(numbers.size(), 0);
        Map<List<Integer>, Arc> cheapest = new HashMap<>();
        for (Arc arc : sorted) {
            Arc moved = new Arc(numbers.get(arc.from), arc.upper, arc.lower, arc.cost,
                    numbers.get(arc.to));
            List<Integer> key = List.of(moved.from, moved.upper, moved.lower, moved.to);
            if (!cheapest.containsKey(key) || cheapest.get(key).cost > moved.cost) {
                cheapest.put(key, moved);
            }
        }
        made.arcs.addAll(cheapest.values());
        made.arcs.sort(ORDER);
        for (int end : ends) {
            if (numbers.containsKey(end)) {
                made.ends.add(numbers.get(end));
            }
        }
        return made;
    }

    // ---- making

    static Net joined(Net one, Net other) {
        Net made = new Net(one.states + other.states, 0);
        made.arcs.addAll(one.arcs);
        other.arcs.forEach(arc -> made.arcs.add(arc.moved(one.states)));
        one.ends.forEach(end -> made.arc(end, EMPTY, EMPTY, 0, one.states));
        other.ends.forEach(end -> made.ends.add(end + one.states));
        return made.trimmed();
    }

    static Net united(Net one, Net other) {
        int start = one.states + other.states;
        Net made = new Net(start + 1, start);
        made.arcs.addAll(one.arcs);
        other.arcs.forEach(arc -> made.arcs.add(arc.moved(one.states)));
        made.ends.addAll(one.ends);
        other.ends.forEach(end -> made.ends.add(end + one.states));
        made.arc(start, EMPTY, EMPTY, 0, 0);
        made.arc(start, EMPTY, EMPTY, 0, one.states);
        return made.trimmed();
    }

    Net repeated() {
        if (relatesToEmpty(true) || relatesToEmpty(false)) {
            throw new Impossible();
        }
        Net made = new Net(states + 1, states);
        made.arcs.addAll(arcs);
        made.arc(states, EMPTY, EMPTY, 0, 0);
        ends.forEach(end -> made.arc(end, EMPTY, EMPTY, 0, states));
        made.ends.add(states);
        return made.trimmed();
    }

    private boolean relatesToEmpty(boolean isUpper) {
        Net only = new Net(states, first);
        for (Arc arc : arcs) {
            if ((isUpper ? arc.upper : arc.lower) == EMPTY) {
                only.arcs.add(arc);
            }
        }
        return !Collections.disjoint(only.reached(first, false), ends);
    }

    Net turned() {
        Net made = new Net(states, first);
        arcs.forEach(arc -> made.arc(arc.from, arc.lower, arc.upper, arc.cost, arc.to));
        made.ends.addAll(ends);
        return made.trimmed();
    }

    Net side(boolean isUpper) {
        Net made = new Net(states, first);
        for (Arc arc : arcs) {
            int letter = isUpper ? arc.upper : arc.lower;
            made.arc(arc.from, letter, letter, 0, arc.to);
        }
        made.ends.addAll(ends);
        return made.trimmed();
    }

    static Net composed(Net one, Net other) {
        int width = other.states;
        Net made = new Net(one.states * width, 0);
        for (Arc a : one.arcs) {
            for (Arc b : other.arcs) {
                if (a.lower == b.upper && a.lower != EMPTY) {
                    if (a.cost + b.cost > 1000000) {
                        throw new Impossible();
                    }
                    made.arc(a.from * width + b.from, a.upper, b.lower, a.cost + b.cost,
                            a.to * width + b.to);
                }
            }
        }
        for (int state = 0; state < one.states; state++) {
            for (int with = 0; with < width; with++) {
                for (Arc a : one.arcs) {
                    if (a.lower == EMPTY && a.from == state) {
                        made.arc(state * width + with, a.upper, EMPTY, a.cost, a.to * width + with);
                    }
                }
                for (Arc b : other.arcs) {
                    if (b.upper == EMPTY && b.from == with) {
                        made.arc(state * width + with, EMPTY, b.lower, b.cost, state * width + b.to);
                    }
                }
                if (one.ends.contains(state) && other.ends.contains(with)) {
                    made.ends.add(state * width + with);
                }
            }
        }
        return made.trimmed();
    }

    static Net ruled(int f, int t, int l, int r, boolean isFree) {
        boolean isNearLeft = l == -1 || l == f;
        boolean isNearRight = r == -1 || r == f;
        if (t == EMPTY && isNearLeft && isNearRight) {
            throw new Impossible();
        }
        Net made = new Net(6, l == -1 ? 3 : 0);
        for (int p = 0; p < 2; p++) {
            for (int d = 0; d < 3; d++) {
                int from = p * 3 + d;
                if (d != 1) {
                    made.ends.add(from);
                }
                for (int x = 0; x < 8; x++) {
                    if (d == 1 && x != r || d == 2 && x == r) {
                        continue;
                    }
                    int to = l == -1 || x == l ? 3 : 0;
                    if (x != f || p == 0) {
                        made.arc(from, x, x, 0, to);
                        continue;
                    }
                    made.arc(from, f, t, 0, r == -1 ? to : to + 1);
                    if (r != -1) {
                        made.arc(from, f, f, 0, to + 2);
                    }
                    if (isFree) {
                        made.arc(from, f, f, 0, to);
                    }
                }
            }
        }
        return made.trimmed();
    }

    // ---- sets of states

    private Set<Integer> spread(Set<Integer> set) {
        Set<Integer> all = new TreeSet<>();
        Net only = new Net(states, first);
        arcs.stream().filter(arc -> arc.upper == EMPTY).forEach(only.arcs::add);
        for (int state : set) {
            all.addAll(only.reached(state, false));
        }
        return all;
    }

    private Set<Integer> behind(Set<Integer> set, int letter) {
        Set<Integer> next = new TreeSet<>();
        for (Arc arc : arcs) {
            if (arc.upper == letter && set.contains(arc.from)) {
                next.add(arc.to);
            }
        }
        return spread(next);
    }

    private boolean hasEnd(Set<Integer> set) {
        return !Collections.disjoint(set, ends);
    }

    enum Wanted { FIRST, FIRST_ALONE, BOTH, JUST_ONE }

    record Pair(Set<Integer> one, Set<Integer> other) {
    }

    /** All pairs of sets, each with a word that leads to it; for one machine alone other is null. */
    private static Map<Pair, String> pairs(Net one, Net other, Wanted wanted) {
        Map<Pair, String> words = new LinkedHashMap<>();
        List<Pair> found = new ArrayList<>();
        Pair start = new Pair(one.spread(Set.of(0)), other == null ? Set.of() : other.spread(Set.of(0)));
        words.put(start, "");
        found.add(start);
        for (int next = 0; next < found.size(); next++) {
            for (int letter = 0; letter < 8; letter++) {
                Pair pair = behind(found.get(next), one, other, letter);
                boolean counts = switch (wanted) {
                    case FIRST, FIRST_ALONE -> !pair.one.isEmpty();
                    case BOTH -> !pair.one.isEmpty() && !pair.other.isEmpty();
                    case JUST_ONE -> !pair.one.isEmpty() || !pair.other.isEmpty();
                };
                if (counts && !words.containsKey(pair)) {
                    words.put(pair, words.get(found.get(next)) + letter);
                    found.add(pair);
                }
                if (found.size() > 200) {
                    throw new Impossible();
                }
            }
        }
        return words;
    }

    private static Pair behind(Pair pair, Net one, Net other, int letter) {
        return new Pair(one.behind(pair.one, letter),
                other == null ? Set.of() : other.behind(pair.other, letter));
    }

    private static boolean isWanted(Pair pair, Net one, Net other, Wanted wanted) {
        boolean first = one.hasEnd(pair.one);
        boolean second = other != null && other.hasEnd(pair.other);
        return switch (wanted) {
            case FIRST -> first;
            case FIRST_ALONE -> first && !second;
            case BOTH -> first && second;
            case JUST_ONE -> first != second;
        };
    }

    /** The shortest word, the first one of several, that is in just one; null if there is none. */
    static String apart(Net one, Net other) {
        Map<Pair, String> words = pairs(one, other, Wanted.JUST_ONE);
        String best = null;
        for (Map.Entry<Pair, String> entry : words.entrySet()) {
            String word = entry.getValue();
            if (isWanted(entry.getKey(), one, other, Wanted.JUST_ONE) && (best == null
                    || word.length() < best.length()
                    || word.length() == best.length() && word.compareTo(best) < 0)) {
                best = word;
            }
        }
        return best;
    }

    /** The least machine of the wanted words, by a table of the pairs that differ. */
    static Net least(Net one, Net other, Wanted wanted) {
        List<Pair> found = new ArrayList<>(pairs(one, other, wanted).keySet());
        int count = found.size();
        Map<Pair, Integer> places = new HashMap<>();
        for (int at = 0; at < count; at++) {
            places.put(found.get(at), at);
        }
        // The last row stands for all pairs that do not count.
        int[][] next = new int[count + 1][8];
        boolean[] isEnd = new boolean[count + 1];
        Arrays.fill(next[count], count);
        for (int at = 0; at < count; at++) {
            isEnd[at] = isWanted(found.get(at), one, other, wanted);
            for (int letter = 0; letter < 8; letter++) {
                next[at][letter] = places.getOrDefault(behind(found.get(at), one, other, letter), count);
            }
        }
        boolean[][] differ = differing(next, isEnd);
        int[] like = new int[count + 1];
        for (int at = 0; at <= count; at++) {
            while (differ[at][like[at]]) {
                like[at]++;
            }
        }
        Net made = new Net(count + 1, like[0]);
        for (int at = 0; at <= count; at++) {
            if (like[at] == at) {
                for (int letter = 0; letter < 8; letter++) {
                    made.arc(at, letter, letter, 0, like[next[at][letter]]);
                }
                if (isEnd[at]) {
                    made.ends.add(at);
                }
            }
        }
        return made.trimmed();
    }

    private static boolean[][] differing(int[][] next, boolean[] isEnd) {
        boolean[][] differ = new boolean[next.length][next.length];
        boolean isGrowing = true;
        for (int a = 0; a < next.length; a++) {
            for (int b = 0; b < next.length; b++) {
                differ[a][b] = isEnd[a] != isEnd[b];
            }
        }
        while (isGrowing) {
            isGrowing = false;
            for (int a = 0; a < next.length; a++) {
                for (int b = 0; b < next.length; b++) {
                    for (int letter = 0; letter < 8 && !differ[a][b]; letter++) {
                        if (differ[next[a][letter]][next[b][letter]]) {
                            differ[a][b] = true;
                            isGrowing = true;
                        }
                    }
                }
            }
        }
        return differ;
    }

    // ---- looking words up

    private static final int MOST_WORDS = 2000;

    /** All words that are related to a word, with what they cost at least. */
    TreeMap<String, Integer> related(String word, boolean isUp) {
        return from(0, word, isUp, new HashMap<>());
    }

    private TreeMap<String, Integer> from(int state, String rest, boolean isUp,
            Map<String, TreeMap<String, Integer>> known) {
        String key = state + ":" + rest;
        if (known.containsKey(key)) {
            return known.get(key);
        }
        TreeMap<String, Integer> all = new TreeMap<>();
        if (rest.isEmpty() && ends.contains(state)) {
            all.put("", 0);
        }
        for (Arc arc : arcs) {
            int reads = isUp ? arc.lower : arc.upper;
            int says = isUp ? arc.upper : arc.lower;
            boolean isRead = reads != EMPTY;
            if (arc.from == state && (!isRead || !rest.isEmpty() && rest.charAt(0) - '0' == reads)) {
                String told = says == EMPTY ? "" : "" + says;
                from(arc.to, isRead ? rest.substring(1) : rest, isUp, known)
                        .forEach((behind, cost) -> all.merge(told + behind, cost + arc.cost, Math::min));
                if (all.size() > MOST_WORDS) {
                    throw new TooSlow();
                }
            }
        }
        known.put(key, all);
        return all;
    }

    // ---- mending

    private static final int MOST_TRIED = 60000;
    private int tried;

    /** The first upper word at the fewest changes from a word; null if there is none. */
    String mended(String word) {
        if (ends.isEmpty()) {
            return null;
        }
        int[] row = new int[word.length() + 1];
        for (int at = 0; at <= word.length(); at++) {
            row[at] = at;
        }
        tried = 0;
        for (int changes = 0; changes <= 40; changes++) {
            String found = within(changes, spread(Set.of(0)), row, word, "");
            if (found != null) {
                return found;
            }
        }
        throw new TooSlow();
    }

    /** Goes through all words letter by letter, as far as they are near enough. */
    private String within(int changes, Set<Integer> set, int[] row, String word, String said) {
        tried++;
        if (tried > MOST_TRIED) {
            throw new TooSlow();
        }
        if (set.isEmpty() || Arrays.stream(row).min().getAsInt() > changes) {
            return null;
        }
        if (hasEnd(set) && row[word.length()] <= changes) {
            return said;
        }
        for (int letter = 0; letter < 8; letter++) {
            int[] next = nextRow(row, word, letter);
            String found = within(changes, behind(set, letter), next, word, said + letter);
            if (found != null) {
                return found;
            }
        }
        return null;
    }

    private static int[] nextRow(int[] row, String word, int letter) {
        int[] next = new int[row.length];
        next[0] = row[0] + 1;
        for (int at = 1; at < row.length; at++) {
            int exchanged = row[at - 1] + (word.charAt(at - 1) - '0' == letter ? 0 : 1);
            next[at] = Math.min(exchanged, 1 + Math.min(row[at], next[at - 1]));
        }
        return next;
    }

    static int distance(String one, String other) {
        int[] row = new int[other.length() + 1];
        for (int at = 0; at <= other.length(); at++) {
            row[at] = at;
        }
        for (int at = 0; at < one.length(); at++) {
            row = nextRow(row, other, one.charAt(at) - '0');
        }
        return row[other.length()];
    }

    String show() {
        StringBuilder text = new StringBuilder().append(states).append(" [");
        String gap = "";
        for (int end : ends) {
            text.append(gap).append(end);
            gap = " ";
        }
        text.append(']');
        for (Arc arc : arcs) {
            text.append(' ').append(arc.from).append(':').append(arc.upper).append('/')
                    .append(arc.lower).append('$').append(arc.cost).append('>').append(arc.to);
        }
        return text.toString();
    }}
