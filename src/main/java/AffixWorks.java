/**
 * A mill of machines for words: it makes machines that relate upper words to
 * lower ones, looks words up in them, mends spelling, tells two machines apart,
 * and guesses the class of a word by its ending.
 */
public final class AffixWorks {
    public static final int NONE = -1;
    public static final int EMPTY = 8;

    private static final int LETTERS = 8;
    private static final int MOST_TYPED = 8;
    private static final int MOST_MACHINES = 24;
    private static final int MOST_STATES = 32;
    private static final int MOST_ARCS = 160;
    private static final int MOST_SETS = 200;
    private static final int MOST_ANSWERS = 20;
    private static final int MOST_LESSONS = 30;
    private static final int KINDS = 6;
    private static final int DEAREST_PAIR = 100;
    private static final int DEAREST_ARC = 1000000;

    // A draft is largest where two machines are composed: all pairs of states. Of arcs it has
    // most where each arc of the one meets each of the other, as one with an empty letter,
    // that meets none, gives but 32.
    private static final int DRAFT_STATES = MOST_STATES * MOST_STATES;
    private static final int DRAFT_ARCS = MOST_ARCS * MOST_ARCS;

    // What is known of the next letter, in the states of a rule.
    private static final int UNKNOWN = 0;
    private static final int WANTED = 1;
    private static final int UNWANTED = 2;
    private static final int KNOWLEDGE = 3;

    private final int[] letters;
    private int length;
    private final Machine[] machines;
    private int count;
    private final Draft draft;
    private final SetPairs setPairs;
    private final Search search;
    private final Lessons lessons;

    public AffixWorks() {
        letters = new int[MOST_TYPED];
        length = 0;
        machines = new Machine[MOST_MACHINES];
        for (int machine = 0; machine < MOST_MACHINES; machine++) {
            machines[machine] = new Machine();
        }
        count = 0;
        draft = new Draft();
        setPairs = new SetPairs();
        search = new Search();
        lessons = new Lessons();
    }

    // ---- typing

    public int type(int letter) throws IllegalArgumentException, IllegalStateException {
        if (!isLetter(letter)) {
            throw new IllegalArgumentException("no such letter");
        }
        if (length >= MOST_TYPED) {
            throw new IllegalStateException("the word is full");
        }
        letters[length] = letter;
        length++;
        return length;
    }

    public int clear() {
        int had = length;
        length = 0;
        return had;
    }

    // ---- making

    public int pair(int upper, int lower, int cost)
            throws IllegalArgumentException, IllegalStateException {
        if (!isLetterOrEmpty(upper) || !isLetterOrEmpty(lower)) {
            throw new IllegalArgumentException("no such letter");
        }
        if (cost < 0 || cost > DEAREST_PAIR) {
            throw new IllegalArgumentException("no such cost");
        }
        draft.begin(2, 0);
        draft.addArc(0, upper, lower, cost, 1);
        draft.addEnd(1);
        return keepDraft();
    }

    public int word() throws IllegalStateException {
        draft.begin(length + 1, 0);
        for (int place = 0; place < length; place++) {
            draft.addArc(place, letters[place], letters[place], 0, place + 1);
        }
        draft.addEnd(length);
        return keepDraft();
    }

    public int any() throws IllegalStateException {
        draft.begin(2, 0);
        for (int letter = 0; letter < LETTERS; letter++) {
            draft.addArc(0, letter, letter, 0, 1);
        }
        draft.addEnd(1);
        return keepDraft();
    }

    public int join(int first, int second)
            throws IndexOutOfBoundsException, IllegalStateException {
        needMachine(first);
        needMachine(second);
        Machine ahead = machines[first];
        Machine behind = machines[second];
        draft.begin(ahead.states + behind.states, 0);
        draft.addArcsOf(ahead, 0);
        draft.addArcsOf(behind, ahead.states);
        draft.leadFromEndsOf(ahead, 0, ahead.states);
        draft.addEndsOf(behind, ahead.states);
        return keepDraft();
    }

    public int unite(int first, int second)
            throws IndexOutOfBoundsException, IllegalStateException {
        needMachine(first);
        needMachine(second);
        Machine one = machines[first];
        Machine other = machines[second];
        int start = one.states + other.states;
        draft.begin(start + 1, start);
        draft.addArcsOf(one, 0);
        draft.addArcsOf(other, one.states);
        draft.addEndsOf(one, 0);
        draft.addEndsOf(other, one.states);
        draft.addArc(start, EMPTY, EMPTY, 0, 0);
        draft.addArc(start, EMPTY, EMPTY, 0, one.states);
        return keepDraft();
    }

    public int repeat(int machine) throws IndexOutOfBoundsException, IllegalStateException {
        needMachine(machine);
        Machine once = machines[machine];
        if (once.relatesEmpty(true) || once.relatesEmpty(false)) {
            throw new IllegalStateException("it relates something to the empty word");
        }
        int start = once.states;
        draft.begin(start + 1, start);
        draft.addArcsOf(once, 0);
        draft.addArc(start, EMPTY, EMPTY, 0, 0);
        draft.leadFromEndsOf(once, 0, start);
        draft.addEnd(start);
        return keepDraft();
    }

    public int turn(int machine) throws IndexOutOfBoundsException, IllegalStateException {
        needMachine(machine);
        Machine from = machines[machine];
        draft.begin(from.states, 0);
        for (int at = 0; at < from.arcs.count; at++) {
            int arc = from.arcs.packed[at];
            draft.addArc(fromOf(arc), lowerOf(arc), upperOf(arc), from.arcs.costs[at], toOf(arc));
        }
        draft.addEndsOf(from, 0);
        return keepDraft();
    }

    public int compose(int first, int second)
            throws IndexOutOfBoundsException, IllegalStateException {
        needMachine(first);
        needMachine(second);
        Machine one = machines[first];
        Machine other = machines[second];
        draft.begin(one.states * other.states, 0);
        if (!addMeetings(one, other)) {
            throw new IllegalStateException("two arcs cost too much together");
        }
        addMovesOfOne(one, other.states);
        addMovesOfOther(other, one.states);
        addEndsOfBoth(one, other);
        return keepDraft();
    }

    public int side(int machine, boolean isUpper)
            throws IndexOutOfBoundsException, IllegalStateException {
        needMachine(machine);
        Machine from = machines[machine];
        draft.begin(from.states, 0);
        for (int at = 0; at < from.arcs.count; at++) {
            int arc = from.arcs.packed[at];
            int letter = isUpper ? upperOf(arc) : lowerOf(arc);
            draft.addArc(fromOf(arc), letter, letter, 0, toOf(arc));
        }
        draft.addEndsOf(from, 0);
        return keepDraft();
    }

    public int least(int machine) throws IndexOutOfBoundsException, IllegalStateException {
        needMachine(machine);
        needPlain(machine);
        needSets(setPairs.exploreOne(machines[machine]));
        needStates(setPairs.draw(draft));
        return keepDraft();
    }

    public int meet(int first, int second, boolean isMeet)
            throws IndexOutOfBoundsException, IllegalStateException {
        needMachine(first);
        needMachine(second);
        needPlain(first);
        needPlain(second);
        int wanted = isMeet ? SetPairs.BOTH : SetPairs.FIRST_ALONE;
        needSets(setPairs.exploreTwo(machines[first], machines[second], wanted));
        needStates(setPairs.draw(draft));
        return keepDraft();
    }

    public int rule(int f, int t, int l, int r, boolean isFree)
            throws IllegalArgumentException, IllegalStateException {
        needRule(f, t, l, r);
        if (t == EMPTY && (l == NONE || l == f) && (r == NONE || r == f)) {
            throw new IllegalStateException("there would be a way back with empty lower letters");
        }
        draft.begin(2 * KNOWLEDGE, ruleState(l == NONE, UNKNOWN));
        for (int knowledge = 0; knowledge < KNOWLEDGE; knowledge++) {
            for (int letter = 0; letter < LETTERS; letter++) {
                if (isAsKnown(letter, knowledge, r)) {
                    boolean isAhead = l == NONE || letter == l;
                    addCopy(false, knowledge, letter, isAhead);
                    if (letter != f) {
                        addCopy(true, knowledge, letter, isAhead);
                    } else {
                        addRewriting(ruleState(true, knowledge), f, t, r, isAhead, isFree);
                    }
                }
            }
            if (knowledge != WANTED) {
                draft.addEnd(ruleState(false, knowledge));
                draft.addEnd(ruleState(true, knowledge));
            }
        }
        return keepDraft();
    }

    // ---- looking at machines

    public int size(int machine) throws IndexOutOfBoundsException {
        needMachine(machine);
        return 1000 * machines[machine].states + machines[machine].arcs.count;
    }

    public boolean isEnd(int machine, int state) throws IndexOutOfBoundsException {
        needMachine(machine);
        if (state < 0 || state >= machines[machine].states) {
            throw new IndexOutOfBoundsException("no such state");
        }
        return holds(machines[machine].ends, state);
    }

    public int arc(int machine, int arc, int what)
            throws IndexOutOfBoundsException, IllegalArgumentException {
        needMachine(machine);
        Arcs arcs = machines[machine].arcs;
        if (arc < 0 || arc >= arcs.count) {
            throw new IndexOutOfBoundsException("no such arc");
        }
        switch (what) {
            case 0:
                return fromOf(arcs.packed[arc]);
            case 1:
                return upperOf(arcs.packed[arc]);
            case 2:
                return lowerOf(arcs.packed[arc]);
            case 3:
                return arcs.costs[arc];
            case 4:
                return toOf(arcs.packed[arc]);
            default:
                throw new IllegalArgumentException("an arc has no such thing");
        }
    }

    public boolean isPlain(int machine) throws IndexOutOfBoundsException {
        needMachine(machine);
        return machines[machine].hasPlainArcsAlone();
    }

    // ---- looking words up

    public int answer(int machine, boolean isUp, int answer, int place)
            throws IndexOutOfBoundsException, IllegalArgumentException {
        needMachine(machine);
        needPlace(place);
        if (answer < 0 || answer >= MOST_ANSWERS) {
            throw new IllegalArgumentException("no such answer");
        }
        lookUp(machine, isUp);
        if (search.find(answer + 1, false) <= answer) {
            return NONE;
        }
        return search.foundLetter(place);
    }

    public int answers(int machine, boolean isUp) throws IndexOutOfBoundsException {
        needMachine(machine);
        lookUp(machine, isUp);
        return search.find(MOST_ANSWERS, false);
    }

    public int cost(int machine, boolean isUp) throws IndexOutOfBoundsException {
        needMachine(machine);
        lookUp(machine, isUp);
        return search.leastCost();
    }

    public int best(int machine, boolean isUp, int place) throws IndexOutOfBoundsException {
        needMachine(machine);
        needPlace(place);
        lookUp(machine, isUp);
        return search.find(1, true) == 0 ? NONE : search.foundLetter(place);
    }

    public int changes(int machine) throws IndexOutOfBoundsException {
        needMachine(machine);
        search.begin(machines[machine], letters, length, Search.MENDING);
        return search.leastCost();
    }

    public int mended(int machine, int place) throws IndexOutOfBoundsException {
        needMachine(machine);
        needPlace(place);
        search.begin(machines[machine], letters, length, Search.MENDING);
        return search.find(1, true) == 0 ? NONE : search.foundLetter(place);
    }

    public int apart(int first, int second, int place)
            throws IndexOutOfBoundsException, IllegalStateException {
        needMachine(first);
        needMachine(second);
        needPlace(place);
        needPlain(first);
        needPlain(second);
        needSets(setPairs.exploreTwo(machines[first], machines[second], SetPairs.JUST_ONE));
        return setPairs.firstWantedLetter(place);
    }

    public int ruled(int f, int t, int l, int r, int place)
            throws IndexOutOfBoundsException, IllegalArgumentException {
        needPlace(place);
        needRule(f, t, l, r);
        int made = 0;
        for (int at = 0; at < length; at++) {
            int letter = isRewritten(at, f, l, r) ? t : letters[at];
            if (letter != EMPTY) {
                if (made == place) {
                    return letter;
                }
                made++;
            }
        }
        return EMPTY;
    }

    // ---- guesses

    public int learn(int kind) throws IllegalArgumentException, IllegalStateException {
        if (kind < 0 || kind >= KINDS) {
            throw new IllegalArgumentException("no such class");
        }
        if (lessons.count >= MOST_LESSONS) {
            throw new IllegalStateException("no more words can be learnt");
        }
        lessons.add(letters, length, kind);
        return lessons.count;
    }

    public int guess() {
        return lessons.tell(letters, length);
    }

    // ---- what must hold

    private static boolean isLetter(int letter) {
        return letter >= 0 && letter < LETTERS;
    }

    private static boolean isLetterOrEmpty(int letter) {
        return isLetter(letter) || letter == EMPTY;
    }

    private static boolean isLetterOrAny(int letter) {
        return isLetter(letter) || letter == NONE;
    }

    private static void needRule(int f, int t, int l, int r) throws IllegalArgumentException {
        if (!isLetter(f) || !isLetterOrEmpty(t) || !isLetterOrAny(l) || !isLetterOrAny(r)) {
            throw new IllegalArgumentException("no such rule");
        }
    }

    private static void needPlace(int place) throws IndexOutOfBoundsException {
        if (place < 0) {
            throw new IndexOutOfBoundsException("no such place");
        }
    }

    private static void needSets(boolean areFew) throws IllegalStateException {
        if (!areFew) {
            throw new IllegalStateException("there are too many sets of states");
        }
    }

    private static void needStates(boolean areFew) throws IllegalStateException {
        if (!areFew) {
            throw new IllegalStateException("the machine has too many states");
        }
    }

    private void needMachine(int machine) throws IndexOutOfBoundsException {
        if (machine < 0 || machine >= count) {
            throw new IndexOutOfBoundsException("no such machine");
        }
    }

    private void needPlain(int machine) throws IllegalStateException {
        if (!machines[machine].hasPlainArcsAlone()) {
            throw new IllegalStateException("the machine is not plain");
        }
    }

    // ---- making, in parts

    private int keepDraft() throws IllegalStateException {
        if (count >= MOST_MACHINES) {
            throw new IllegalStateException("there are too many machines");
        }
        if (!draft.trimInto(machines[count])) {
            throw new IllegalStateException("the machine is too large");
        }
        count++;
        return count - 1;
    }

    /** Returns false if two arcs that meet cost too much, of whatever states they are. */
    private boolean addMeetings(Machine one, Machine other) {
        for (int at = 0; at < one.arcs.count; at++) {
            int arc = one.arcs.packed[at];
            for (int with = 0; with < other.arcs.count; with++) {
                int meeting = other.arcs.packed[with];
                if (lowerOf(arc) != EMPTY && lowerOf(arc) == upperOf(meeting)) {
                    int both = one.arcs.costs[at] + other.arcs.costs[with];
                    if (both > DEAREST_ARC) {
                        return false;
                    }
                    draft.addArc(fromOf(arc) * other.states + fromOf(meeting), upperOf(arc),
                            lowerOf(meeting), both, toOf(arc) * other.states + toOf(meeting));
                }
            }
        }
        return true;
    }

    private void addMovesOfOne(Machine one, int otherStates) {
        for (int at = 0; at < one.arcs.count; at++) {
            int arc = one.arcs.packed[at];
            if (lowerOf(arc) == EMPTY) {
                for (int state = 0; state < otherStates; state++) {
                    draft.addArc(fromOf(arc) * otherStates + state, upperOf(arc), EMPTY,
                            one.arcs.costs[at], toOf(arc) * otherStates + state);
                }
            }
        }
    }

    private void addMovesOfOther(Machine other, int oneStates) {
        for (int at = 0; at < other.arcs.count; at++) {
            int arc = other.arcs.packed[at];
            if (upperOf(arc) == EMPTY) {
                for (int state = 0; state < oneStates; state++) {
                    int base = state * other.states;
                    draft.addArc(base + fromOf(arc), EMPTY, lowerOf(arc),
                            other.arcs.costs[at], base + toOf(arc));
                }
            }
        }
    }

    private void addEndsOfBoth(Machine one, Machine other) {
        for (int state = 0; state < one.states; state++) {
            if (holds(one.ends, state)) {
                draft.addEndsOf(other, state * other.states);
            }
        }
    }

    private static int ruleState(boolean isAhead, int knowledge) {
        return (isAhead ? KNOWLEDGE : 0) + knowledge;
    }

    private static boolean isAsKnown(int letter, int knowledge, int r) {
        if (knowledge == WANTED) {
            return letter == r;
        }
        return knowledge == UNKNOWN || letter != r;
    }

    private void addCopy(boolean isAhead, int knowledge, int letter, boolean isThenAhead) {
        draft.addArc(ruleState(isAhead, knowledge), letter, letter, 0,
                ruleState(isThenAhead, UNKNOWN));
    }

    private void addRewriting(int state, int f, int t, int r, boolean isThenAhead,
            boolean isFree) {
        if (r == NONE) {
            draft.addArc(state, f, t, 0, ruleState(isThenAhead, UNKNOWN));
        } else {
            draft.addArc(state, f, t, 0, ruleState(isThenAhead, WANTED));
            draft.addArc(state, f, f, 0, ruleState(isThenAhead, UNWANTED));
        }
        if (isFree) {
            draft.addArc(state, f, f, 0, ruleState(isThenAhead, UNKNOWN));
        }
    }

    // ---- looking up, in parts

    private void lookUp(int machine, boolean isUp) {
        int way = isUp ? Search.UP : Search.DOWN;
        search.begin(machines[machine], letters, length, way);
    }

    private boolean isRewritten(int at, int f, int l, int r) {
        boolean isAhead = l == NONE || at > 0 && letters[at - 1] == l;
        boolean isBehind = r == NONE || at + 1 < length && letters[at + 1] == r;
        return letters[at] == f && isAhead && isBehind;
    }

    // ---- arcs and sets as numbers

    /** Packs an arc so that the order of the numbers is the order of the arcs. */
    private static int packedArc(int from, int upper, int lower, int to) {
        return from << 18 | upper << 14 | lower << 10 | to;
    }

    private static int fromOf(int packed) {
        return packed >>> 18;
    }

    private static int upperOf(int packed) {
        return packed >>> 14 & 15;
    }

    private static int lowerOf(int packed) {
        return packed >>> 10 & 15;
    }

    private static int toOf(int packed) {
        return packed & 1023;
    }

    private static boolean holds(int set, int state) {
        return (set >>> state & 1) == 1;
    }

    /** Arcs in their order, of which no two differ in nothing but the cost. */
    private static final class Arcs {
        final int[] packed = new int[MOST_ARCS];
        final int[] costs = new int[MOST_ARCS];
        int count = 0;

        /** Returns false if there is no room left for it. */
        boolean put(int arc, int cost) {
            int at = placeOf(arc);
            if (at < count && packed[at] == arc) {
                costs[at] = Math.min(costs[at], cost);
                return true;
            }
            if (count >= MOST_ARCS) {
                return false;
            }
            System.arraycopy(packed, at, packed, at + 1, count - at);
            System.arraycopy(costs, at, costs, at + 1, count - at);
            packed[at] = arc;
            costs[at] = cost;
            count++;
            return true;
        }

        /** The place of the first arc that is not ahead of the given one. */
        int placeOf(int arc) {
            int low = 0;
            int high = count;
            for (int halving = 0; low < high && halving < MOST_ARCS; halving++) {
                int middle = (low + high) / 2;
                if (packed[middle] < arc) {
                    low = middle + 1;
                } else {
                    high = middle;
                }
            }
            return low;
        }

        int firstPlaceFrom(int state) {
            return placeOf(packedArc(state, 0, 0, 0));
        }
    }

    /** A machine as it is kept; its first state is 0, its ends are a set. */
    private static final class Machine {
        final Arcs arcs = new Arcs();
        int states = 1;
        int ends = 0;

        boolean hasPlainArcsAlone() {
            for (int at = 0; at < arcs.count; at++) {
                int arc = arcs.packed[at];
                if (upperOf(arc) != lowerOf(arc) || arcs.costs[at] != 0) {
                    return false;
                }
            }
            return true;
        }

        /** Whether there is a way to an end on which all upper, or all lower, letters are empty. */
        boolean relatesEmpty(boolean isUpper) {
            int reached = 1;
            boolean isGrowing = true;
            for (int round = 0; isGrowing && round < states; round++) {
                isGrowing = false;
                for (int at = 0; at < arcs.count; at++) {
                    int arc = arcs.packed[at];
                    int letter = isUpper ? upperOf(arc) : lowerOf(arc);
                    if (letter == EMPTY && holds(reached, fromOf(arc))
                            && !holds(reached, toOf(arc))) {
                        reached |= 1 << toOf(arc);
                        isGrowing = true;
                    }
                }
            }
            return (reached & ends) != 0;
        }
    }

    /** A machine as it is made, ahead of trimming. */
    private static final class Draft {
        private final int[] packed = new int[DRAFT_ARCS];
        private final int[] costs = new int[DRAFT_ARCS];
        private final boolean[] ends = new boolean[DRAFT_STATES];
        private int states = 1;
        private int start = 0;
        private int count = 0;

        private final int[] lastArcs = new int[DRAFT_STATES];
        private final int[] arcsAhead = new int[DRAFT_ARCS];
        private final int[] queue = new int[DRAFT_STATES];
        private final boolean[] isReached = new boolean[DRAFT_STATES];
        private final boolean[] isUseful = new boolean[DRAFT_STATES];
        private final int[] numbers = new int[DRAFT_STATES];
        private final Arcs useful = new Arcs();

        void begin(int stateCount, int first) {
            states = Math.min(stateCount, DRAFT_STATES);
            start = first;
            count = 0;
            for (int state = 0; state < states; state++) {
                ends[state] = false;
            }
        }

        void addArc(int from, int upper, int lower, int cost, int to) {
            if (count < DRAFT_ARCS && from < states && to < states) {
                packed[count] = packedArc(from, upper, lower, to);
                costs[count] = cost;
                count++;
            }
        }

        void addEnd(int state) {
            if (state < states) {
                ends[state] = true;
            }
        }

        void addArcsOf(Machine machine, int base) {
            for (int at = 0; at < machine.arcs.count; at++) {
                int arc = machine.arcs.packed[at];
                addArc(base + fromOf(arc), upperOf(arc), lowerOf(arc),
                        machine.arcs.costs[at], base + toOf(arc));
            }
        }

        void addEndsOf(Machine machine, int base) {
            for (int state = 0; state < machine.states; state++) {
                if (holds(machine.ends, state)) {
                    addEnd(base + state);
                }
            }
        }

        void leadFromEndsOf(Machine machine, int base, int to) {
            for (int state = 0; state < machine.states; state++) {
                if (holds(machine.ends, state)) {
                    addArc(base + state, EMPTY, EMPTY, 0, to);
                }
            }
        }

        /** Returns false if the machine would be too large; what is written then is no machine. */
        boolean trimInto(Machine made) {
            made.states = 1;
            made.ends = 0;
            made.arcs.count = 0;
            markReached();
            if (markUseful() > MOST_STATES) {
                return false;
            }
            // Where the first state is of no use nothing is related: not even arcs from it to
            // itself are kept.
            if (!isUseful[start]) {
                return true;
            }
            if (!gatherUseful()) {
                return false;
            }
            made.states = numberStates();
            writeEnds(made);
            return writeArcs(made);
        }

        private void markReached() {
            for (int state = 0; state < states; state++) {
                isReached[state] = false;
            }
            isReached[start] = true;
            queue[0] = start;
            linkArcs(true);
            follow(1, true, isReached);
        }

        /** Returns how many states are on some way from the first one to an end. */
        private int markUseful() {
            int found = 0;
            for (int state = 0; state < states; state++) {
                isUseful[state] = isReached[state] && ends[state];
                if (isUseful[state]) {
                    queue[found] = state;
                    found++;
                }
            }
            linkArcs(false);
            return follow(found, false, isUseful);
        }

        /** Chains the arcs that lead from each state, or to it (then from reached ones alone). */
        private void linkArcs(boolean isForward) {
            for (int state = 0; state < states; state++) {
                lastArcs[state] = NONE;
            }
            for (int at = 0; at < count; at++) {
                if (isForward || isReached[fromOf(packed[at])]) {
                    int state = isForward ? fromOf(packed[at]) : toOf(packed[at]);
                    arcsAhead[at] = lastArcs[state];
                    lastArcs[state] = at;
                }
            }
        }

        /** Marks all states to which the chains lead from those in the queue; returns how many. */
        private int follow(int queued, boolean isForward, boolean[] marks) {
            int found = queued;
            for (int next = 0; next < found && next < DRAFT_STATES; next++) {
                int at = lastArcs[queue[next]];
                for (int seen = 0; at >= 0 && seen < count; seen++) {
                    int state = isForward ? toOf(packed[at]) : fromOf(packed[at]);
                    if (!marks[state]) {
                        marks[state] = true;
                        queue[found] = state;
                        found++;
                    }
                    at = arcsAhead[at];
                }
            }
            return found;
        }

        private boolean gatherUseful() {
            useful.count = 0;
            for (int at = 0; at < count; at++) {
                if (isUseful[fromOf(packed[at])] && isUseful[toOf(packed[at])]
                        && !useful.put(packed[at], costs[at])) {
                    return false;
                }
            }
            return true;
        }

        /** Returns how many states have got a number. */
        private int numberStates() {
            for (int state = 0; state < states; state++) {
                numbers[state] = NONE;
            }
            numbers[start] = 0;
            queue[0] = start;
            int found = 1;
            for (int next = 0; next < found && next < MOST_STATES; next++) {
                int behind = useful.firstPlaceFrom(queue[next] + 1);
                for (int at = useful.firstPlaceFrom(queue[next]); at < behind; at++) {
                    int to = toOf(useful.packed[at]);
                    if (numbers[to] == NONE) {
                        numbers[to] = found;
                        queue[found] = to;
                        found++;
                    }
                }
            }
            return found;
        }

        private boolean writeArcs(Machine made) {
            for (int at = 0; at < useful.count; at++) {
                int arc = useful.packed[at];
                int numbered = packedArc(numbers[fromOf(arc)], upperOf(arc), lowerOf(arc),
                        numbers[toOf(arc)]);
                if (!made.arcs.put(numbered, useful.costs[at])) {
                    return false;
                }
            }
            return true;
        }

        private void writeEnds(Machine made) {
            for (int number = 0; number < made.states; number++) {
                if (ends[queue[number]]) {
                    made.ends |= 1 << number;
                }
            }
        }
    }

    /** The sets of states in which a plain machine can be. */
    private static final class Steps {
        private final int[] closures = new int[MOST_STATES];
        private final int[] moves = new int[MOST_STATES * LETTERS];
        private int states = 0;
        private int ends = 0;

        /** Takes a machine without states, which is never in any. */
        void takeNothing() {
            states = 0;
            ends = 0;
        }

        void take(Machine machine) {
            states = machine.states;
            ends = machine.ends;
            findClosures(machine);
            for (int at = 0; at < states * LETTERS; at++) {
                moves[at] = 0;
            }
            for (int at = 0; at < machine.arcs.count; at++) {
                int arc = machine.arcs.packed[at];
                if (upperOf(arc) != EMPTY) {
                    moves[fromOf(arc) * LETTERS + upperOf(arc)] |= closures[toOf(arc)];
                }
            }
        }

        private void findClosures(Machine machine) {
            for (int state = 0; state < states; state++) {
                closures[state] = 1 << state;
            }
            boolean isGrowing = true;
            for (int round = 0; isGrowing && round < states; round++) {
                isGrowing = false;
                for (int at = 0; at < machine.arcs.count; at++) {
                    int arc = machine.arcs.packed[at];
                    int both = closures[fromOf(arc)] | closures[toOf(arc)];
                    if (upperOf(arc) == EMPTY && both != closures[fromOf(arc)]) {
                        closures[fromOf(arc)] = both;
                        isGrowing = true;
                    }
                }
            }
        }

        int firstSet() {
            return states == 0 ? 0 : closures[0];
        }

        int setBehind(int set, int letter) {
            int behind = 0;
            for (int state = 0; state < states; state++) {
                if (holds(set, state)) {
                    behind |= moves[state * LETTERS + letter];
                }
            }
            return behind;
        }

        boolean hasEndIn(int set) {
            return (set & ends) != 0;
        }
    }

    /**
     * The pairs of sets in which two plain machines can be, in the order in which the words
     * that lead to them come: shorter ones first, then letter by letter.
     */
    private static final class SetPairs {
        static final int FIRST_ALONE = 0;
        static final int BOTH = 1;
        static final int JUST_ONE = 2;

        private final Steps first = new Steps();
        private final Steps second = new Steps();
        private int wanted = FIRST_ALONE;

        private final int[] firstSets = new int[MOST_SETS];
        private final int[] secondSets = new int[MOST_SETS];
        private final int[] nexts = new int[MOST_SETS * LETTERS];
        private final int[] parents = new int[MOST_SETS];
        private final int[] lastLetters = new int[MOST_SETS];
        private int count = 0;

        private final boolean[] isUseful = new boolean[MOST_SETS];
        private int[] groups = new int[MOST_SETS];
        private int[] finerGroups = new int[MOST_SETS];
        private final int[] members = new int[MOST_STATES];

        /** Returns false if there are too many sets. */
        boolean exploreOne(Machine machine) {
            first.take(machine);
            second.takeNothing();
            wanted = FIRST_ALONE;
            return explore();
        }

        /** Returns false if there are too many pairs of sets. */
        boolean exploreTwo(Machine one, Machine other, int wantedWords) {
            first.take(one);
            second.take(other);
            wanted = wantedWords;
            return explore();
        }

        private boolean explore() {
            count = 0;
            addPair(first.firstSet(), second.firstSet(), NONE, NONE);
            for (int at = 0; at < count && at < MOST_SETS; at++) {
                for (int letter = 0; letter < LETTERS; letter++) {
                    int one = first.setBehind(firstSets[at], letter);
                    int other = second.setBehind(secondSets[at], letter);
                    int next = NONE;
                    if (isLookedAt(one, other)) {
                        next = placeOf(one, other);
                        if (next == count && !addPair(one, other, at, letter)) {
                            return false;
                        }
                    }
                    nexts[at * LETTERS + letter] = next;
                }
            }
            return true;
        }

        private boolean isLookedAt(int one, int other) {
            if (wanted == BOTH) {
                return one != 0 && other != 0;
            }
            return one != 0 || wanted == JUST_ONE && other != 0;
        }

        /** Returns the count of pairs if it is not among them. */
        private int placeOf(int one, int other) {
            for (int at = 0; at < count; at++) {
                if (firstSets[at] == one && secondSets[at] == other) {
                    return at;
                }
            }
            return count;
        }

        private boolean addPair(int one, int other, int parent, int letter) {
            if (count >= MOST_SETS) {
                return false;
            }
            firstSets[count] = one;
            secondSets[count] = other;
            parents[count] = parent;
            lastLetters[count] = letter;
            count++;
            return true;
        }

        private boolean isWanted(int at) {
            boolean isInFirst = first.hasEndIn(firstSets[at]);
            boolean isInSecond = second.hasEndIn(secondSets[at]);
            if (wanted == BOTH) {
                return isInFirst && isInSecond;
            }
            return wanted == JUST_ONE ? isInFirst != isInSecond : isInFirst && !isInSecond;
        }

        /** A letter of the first wanted word, EMPTY behind it, NONE if no word is wanted. */
        int firstWantedLetter(int place) {
            for (int at = 0; at < count; at++) {
                if (isWanted(at)) {
                    return letterOnWayTo(at, place);
                }
            }
            return NONE;
        }

        private int letterOnWayTo(int target, int place) {
            int behind = lengthOfWayTo(target) - 1 - place;
            if (behind < 0) {
                return EMPTY;
            }
            int at = target;
            for (int back = 0; back < behind && parents[at] >= 0; back++) {
                at = parents[at];
            }
            return lastLetters[at];
        }

        private int lengthOfWayTo(int target) {
            int at = target;
            int steps = 0;
            while (parents[at] >= 0 && steps < MOST_SETS) {
                at = parents[at];
                steps++;
            }
            return steps;
        }

        /** Drafts the least machine of the wanted words; false if it has too many states. */
        boolean draw(Draft draft) {
            markUseful();
            if (!isUseful[0]) {
                draft.begin(1, 0);
                return true;
            }
            int groupCount = groupAlike();
            if (groupCount > MOST_STATES) {
                return false;
            }
            draft.begin(groupCount, groups[0]);
            for (int group = 0; group < groupCount; group++) {
                drawGroup(draft, group);
            }
            return true;
        }

        private void drawGroup(Draft draft, int group) {
            int member = members[group];
            if (isWanted(member)) {
                draft.addEnd(group);
            }
            for (int letter = 0; letter < LETTERS; letter++) {
                int to = groupBehind(member, letter);
                if (to != NONE) {
                    draft.addArc(group, letter, letter, 0, to);
                }
            }
        }

        /** Marks the pairs from which a wanted word can still be reached. */
        private void markUseful() {
            for (int at = 0; at < count; at++) {
                isUseful[at] = isWanted(at);
            }
            boolean isGrowing = true;
            for (int round = 0; isGrowing && round < count; round++) {
                isGrowing = false;
                for (int at = count - 1; at >= 0; at--) {
                    if (!isUseful[at] && leadsToUseful(at)) {
                        isUseful[at] = true;
                        isGrowing = true;
                    }
                }
            }
        }

        private boolean leadsToUseful(int at) {
            for (int letter = 0; letter < LETTERS; letter++) {
                int next = nexts[at * LETTERS + letter];
                if (next >= 0 && isUseful[next]) {
                    return true;
                }
            }
            return false;
        }

        /**
         * Groups the pairs that nothing tells apart; returns how many groups there are, or
         * more than 32 as soon as there are so many, as they only become more.
         */
        private int groupAlike() {
            for (int at = 0; at < count; at++) {
                groups[at] = !isUseful[at] ? NONE : isWanted(at) ? 1 : 0;
            }
            int groupCount = 0;
            for (int round = 0; round <= MOST_STATES + 1; round++) {
                int finer = splitGroups();
                if (finer == groupCount || finer > MOST_STATES) {
                    return finer;
                }
                groupCount = finer;
            }
            return groupCount;
        }

        private int splitGroups() {
            int found = 0;
            for (int at = 0; at < count; at++) {
                finerGroups[at] = NONE;
                if (isUseful[at]) {
                    int group = groupLike(at, found);
                    if (group == found) {
                        if (found >= MOST_STATES) {
                            return MOST_STATES + 1;
                        }
                        members[found] = at;
                        found++;
                    }
                    finerGroups[at] = group;
                }
            }
            int[] coarser = groups;
            groups = finerGroups;
            finerGroups = coarser;
            return found;
        }

        /** Returns the count of groups found if the pair is like none of their members. */
        private int groupLike(int at, int found) {
            for (int group = 0; group < found; group++) {
                if (areAlike(members[group], at)) {
                    return group;
                }
            }
            return found;
        }

        private boolean areAlike(int one, int other) {
            if (groups[one] != groups[other]) {
                return false;
            }
            for (int letter = 0; letter < LETTERS; letter++) {
                if (groupBehind(one, letter) != groupBehind(other, letter)) {
                    return false;
                }
            }
            return true;
        }

        private int groupBehind(int at, int letter) {
            int next = nexts[at * LETTERS + letter];
            return next < 0 ? NONE : groups[next];
        }
    }

    /**
     * Goes through the typed word with a machine. A cell is a place in the word together with
     * a state. From a cell an arc may lead to a cell at the same place, if it reads nothing
     * (or, when mending, puts its letter in), or to one at the next place; when mending, a
     * letter of the word may also be skipped. What the arcs say makes the answer.
     */
    private static final class Search {
        static final int DOWN = 0;
        static final int UP = 1;
        static final int MENDING = 2;

        private static final int PLACES = MOST_TYPED + 1;
        private static final int CELLS = PLACES * MOST_STATES;
        // No way that counts comes to a cell twice, so no answer has as many letters as there
        // are cells.
        private static final int LEVELS = CELLS;
        private static final int MOST_TURNS = 2 * MOST_ANSWERS * (LEVELS + 1);
        private static final int FAR = 1000000000;
        private static final int NO_WAY = -1;

        private final int[] word = new int[MOST_TYPED];
        private int length = 0;
        private Machine machine = new Machine();
        private int way = DOWN;
        private boolean isCheapest = false;

        private final int[] froms = new int[MOST_ARCS];
        private final int[] reads = new int[MOST_ARCS];
        private final int[] says = new int[MOST_ARCS];
        private final int[] tos = new int[MOST_ARCS];

        private final int[] costsLeft = new int[CELLS];
        private final int[] sets = new int[LEVELS * PLACES];
        private final int[] lettersLeft = new int[LEVELS];
        private final int[] row = new int[LEVELS];
        private int rowLength = 0;

        void begin(Machine used, int[] typed, int typedLength, int wayOfLooking) {
            machine = used;
            length = Math.min(Math.min(typedLength, typed.length), MOST_TYPED);
            System.arraycopy(typed, 0, word, 0, length);
            way = wayOfLooking;
            rowLength = 0;
            takeArcsApart();
            measure();
        }

        private void takeArcsApart() {
            for (int at = 0; at < machine.arcs.count; at++) {
                int arc = machine.arcs.packed[at];
                froms[at] = fromOf(arc);
                reads[at] = way == UP ? lowerOf(arc) : upperOf(arc);
                says[at] = way == DOWN ? lowerOf(arc) : upperOf(arc);
                tos[at] = toOf(arc);
            }
        }

        int leastCost() {
            return costsLeft[0] >= FAR ? NONE : costsLeft[0];
        }

        int foundLetter(int place) {
            return place >= 0 && place < rowLength ? row[place] : EMPTY;
        }

        // -- what a step costs

        private int costToStay(int at) {
            if (way == MENDING) {
                return reads[at] == EMPTY ? 0 : 1;
            }
            return reads[at] == EMPTY ? machine.arcs.costs[at] : NO_WAY;
        }

        private int costToRead(int at, int place) {
            if (reads[at] == EMPTY || place >= length) {
                return NO_WAY;
            }
            if (way == MENDING) {
                return reads[at] == word[place] ? 0 : 1;
            }
            return reads[at] == word[place] ? machine.arcs.costs[at] : NO_WAY;
        }

        private int costToSkip(int place) {
            return way == MENDING && place < length ? 1 : NO_WAY;
        }

        private static int cellAt(int place, int state) {
            return place * MOST_STATES + state;
        }

        // -- what it costs at least to come from each cell to an end

        private void measure() {
            for (int place = length; place >= 0; place--) {
                for (int state = 0; state < machine.states; state++) {
                    boolean isAtEnd = place == length && holds(machine.ends, state);
                    costsLeft[cellAt(place, state)] = isAtEnd ? 0 : FAR;
                }
                measureReading(place);
                measureStaying(place);
            }
        }

        private void measureReading(int place) {
            for (int at = 0; at < machine.arcs.count; at++) {
                lessen(cellAt(place, froms[at]), costToRead(at, place),
                        cellAt(place + 1, tos[at]));
            }
            for (int state = 0; state < machine.states; state++) {
                lessen(cellAt(place, state), costToSkip(place), cellAt(place + 1, state));
            }
        }

        private void measureStaying(int place) {
            boolean isLess = true;
            for (int round = 0; isLess && round < machine.states; round++) {
                isLess = false;
                for (int at = 0; at < machine.arcs.count; at++) {
                    if (lessen(cellAt(place, froms[at]), costToStay(at),
                            cellAt(place, tos[at]))) {
                        isLess = true;
                    }
                }
            }
        }

        private boolean lessen(int from, int cost, int to) {
            if (cost == NO_WAY || costsLeft[to] >= FAR || costsLeft[to] + cost >= costsLeft[from]) {
                return false;
            }
            costsLeft[from] = costsLeft[to] + cost;
            return true;
        }

        // -- answers, by sets of cells in which the machine can be behind what has been said

        /**
         * Finds the first answers in their order, of all or of the cheapest ones; returns how
         * many there are, at most so many as are sought, and keeps the last one.
         */
        int find(int sought, boolean areCheapest) {
            isCheapest = areCheapest;
            rowLength = 0;
            if (costsLeft[0] >= FAR) {
                return 0;
            }
            clearSets(0);
            sets[0] = 1;
            int found = enter(0) ? 1 : 0;
            int level = 0;
            for (int turn = 0; found < sought && level >= 0 && turn < MOST_TURNS; turn++) {
                int letter = lowestIn(lettersLeft[level]);
                if (letter == NONE || level + 1 >= LEVELS) {
                    level--;
                } else {
                    lettersLeft[level] &= ~(1 << letter);
                    row[level] = letter;
                    step(level, letter);
                    level++;
                    if (enter(level)) {
                        found++;
                        rowLength = level;
                    }
                }
            }
            return found;
        }

        private static int lowestIn(int letterSet) {
            for (int letter = 0; letter < LETTERS; letter++) {
                if (holds(letterSet, letter)) {
                    return letter;
                }
            }
            return NONE;
        }

        private void clearSets(int level) {
            for (int place = 0; place < PLACES; place++) {
                sets[level * PLACES + place] = 0;
            }
        }

        /** Completes the sets of a level; returns whether what has been said is an answer. */
        private boolean enter(int level) {
            for (int place = 0; place <= length; place++) {
                if (sets[level * PLACES + place] != 0) {
                    spreadStaying(level * PLACES + place, place);
                    spreadReading(level * PLACES + place, place);
                }
            }
            lettersLeft[level] = lettersFrom(level);
            return (sets[level * PLACES + length] & machine.ends) != 0;
        }

        private void spreadStaying(int set, int place) {
            boolean isGrowing = true;
            for (int round = 0; isGrowing && round < machine.states; round++) {
                isGrowing = false;
                for (int at = 0; at < machine.arcs.count; at++) {
                    if (says[at] == EMPTY && !holds(sets[set], tos[at])
                            && isWayStaying(at, set, place)) {
                        sets[set] |= 1 << tos[at];
                        isGrowing = true;
                    }
                }
            }
        }

        private void spreadReading(int set, int place) {
            for (int at = 0; at < machine.arcs.count; at++) {
                if (says[at] == EMPTY && isWayReading(at, set, place)) {
                    sets[set + 1] |= 1 << tos[at];
                }
            }
            for (int state = 0; state < machine.states; state++) {
                if (holds(sets[set], state) && isWay(cellAt(place, state), costToSkip(place),
                        cellAt(place + 1, state))) {
                    sets[set + 1] |= 1 << state;
                }
            }
        }

        /** The letters that can be said next, as a set. */
        private int lettersFrom(int level) {
            int letterSet = 0;
            for (int place = 0; place <= length; place++) {
                int set = level * PLACES + place;
                if (sets[set] != 0) {
                    for (int at = 0; at < machine.arcs.count; at++) {
                        if (says[at] != EMPTY && !holds(letterSet, says[at])
                                && (isWayStaying(at, set, place) || isWayReading(at, set, place))) {
                            letterSet |= 1 << says[at];
                        }
                    }
                }
            }
            return letterSet;
        }

        private void step(int level, int letter) {
            clearSets(level + 1);
            for (int place = 0; place <= length; place++) {
                int set = level * PLACES + place;
                if (sets[set] != 0) {
                    for (int at = 0; at < machine.arcs.count; at++) {
                        if (says[at] == letter && isWayStaying(at, set, place)) {
                            sets[set + PLACES] |= 1 << tos[at];
                        }
                        if (says[at] == letter && isWayReading(at, set, place)) {
                            sets[set + PLACES + 1] |= 1 << tos[at];
                        }
                    }
                }
            }
        }

        private boolean isWayStaying(int at, int set, int place) {
            return holds(sets[set], froms[at]) && isWay(cellAt(place, froms[at]),
                    costToStay(at), cellAt(place, tos[at]));
        }

        private boolean isWayReading(int at, int set, int place) {
            return holds(sets[set], froms[at]) && isWay(cellAt(place, froms[at]),
                    costToRead(at, place), cellAt(place + 1, tos[at]));
        }

        private boolean isWay(int from, int cost, int to) {
            if (cost == NO_WAY || costsLeft[to] >= FAR) {
                return false;
            }
            return !isCheapest || costsLeft[from] == costsLeft[to] + cost;
        }
    }

    /** The words that were learnt, with their classes. */
    private static final class Lessons {
        private final int[] words = new int[MOST_LESSONS * MOST_TYPED];
        private final int[] lengths = new int[MOST_LESSONS];
        private final int[] kinds = new int[MOST_LESSONS];
        private final int[] endings = new int[MOST_LESSONS];
        private final int[] votes = new int[KINDS];
        int count = 0;

        void add(int[] word, int length, int kind) {
            if (count < MOST_LESSONS) {
                System.arraycopy(word, 0, words, count * MOST_TYPED, length);
                lengths[count] = length;
                kinds[count] = kind;
                count++;
            }
        }

        int tell(int[] word, int length) {
            int longest = 0;
            for (int lesson = 0; lesson < count; lesson++) {
                endings[lesson] = endingOf(lesson, word, length);
                longest = Math.max(longest, endings[lesson]);
            }
            if (longest == 0) {
                return NONE;
            }
            countVotes(longest);
            int kind = mostVoted();
            return 100 * longest + 10 * kind + Math.min(votes[kind], 9);
        }

        /** How many letters the ending has that a lesson and the word have in common. */
        private int endingOf(int lesson, int[] word, int length) {
            int most = Math.min(length, lengths[lesson]);
            int last = lesson * MOST_TYPED + lengths[lesson] - 1;
            int same = 0;
            while (same < most && words[last - same] == word[length - 1 - same]) {
                same++;
            }
            return same;
        }

        private void countVotes(int longest) {
            for (int kind = 0; kind < KINDS; kind++) {
                votes[kind] = 0;
            }
            for (int lesson = 0; lesson < count; lesson++) {
                if (endings[lesson] == longest) {
                    votes[kinds[lesson]]++;
                }
            }
        }

        private int mostVoted() {
            int best = 0;
            for (int kind = 1; kind < KINDS; kind++) {
                if (votes[kind] > votes[best]) {
                    best = kind;
                }
            }
            return best;
        }
    }
}
