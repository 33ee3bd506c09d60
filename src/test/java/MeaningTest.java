import java.util.ArrayList;
import java.util.List;
import java.util.Random;
import java.util.TreeMap;

/**
 * Machines that are drawn with fixed seeds, and what they relate, compared with what they mean: by
 * words alone, without a second set of states and arcs. Each machine must also be as the document
 * wants all of them: trimmed, numbered as it is found, without a way back of empty letters.
 */
public final class MeaningTest {
    private static final int RUNS = 600;
    private static final int MADE = 14;
    private static final int LOOKED_UP = 4;
    // Letters 4 to 7 are drawn nowhere, so that each stands for 3, which is ahead of them.
    private static final int LETTERS = 4;
    private static final int MOST_LETTERS = 4;

    private static final Check CHECK = new Check("MeaningTest");

    private interface Making {
        int in(AffixWorks mill);
    }

    private final Random random;
    private final String name;
    private final List<Making> makings = new ArrayList<>();
    private final List<Meaning> meanings = new ArrayList<>();
    private final List<String> told = new ArrayList<>();
    private AffixWorks mill = new AffixWorks();
    private int skipped = 0;

    private MeaningTest(int seed) {
        random = new Random(seed);
        name = "seed " + seed + ": ";
    }

    public static void main(String[] args) {
        int from = args.length > 0 ? Integer.parseInt(args[0]) : 0;
        int count = args.length > 1 ? Integer.parseInt(args[1]) : RUNS;
        int skipped = 0;
        for (int seed = from; seed < from + count && CHECK.isClean(); seed++) {
            MeaningTest test = new MeaningTest(seed);
            test.run();
            skipped += test.skipped;
        }
        System.out.println("MeaningTest: " + skipped + " looks were too long to be told by words");
        CHECK.end();
    }

    private void run() {
        while (makings.size() < MADE) {
            draw();
        }
        for (int machine = 0; machine < MADE; machine++) {
            checkShape(machine);
        }
        for (int look = 0; look < LOOKED_UP; look++) {
            begin();
            String word = word(5);
            Mills.retype(mill, word);
            look(word, random.nextInt(MADE));
        }
        begin();
        lookApart(random.nextInt(MADE), random.nextInt(MADE));
    }

    /** A new mill with the same machines: an object is used for 512 calls at most. */
    private void begin() {
        mill = new AffixWorks();
        for (Making making : makings) {
            making.in(mill);
        }
    }

    // ---- what is drawn

    private int letter() {
        return random.nextInt(LETTERS - 1);
    }

    private int letterOr(int other) {
        return random.nextInt(3) == 0 ? other : letter();
    }

    private String word(int most) {
        StringBuilder word = new StringBuilder();
        int length = random.nextInt(most + 1);
        while (word.length() < length) {
            word.append(letter());
        }
        return word.toString();
    }

    private int machine() {
        int one = random.nextInt(makings.size());
        return Math.max(one, random.nextInt(makings.size()));
    }

    private void draw() {
        int kind = random.nextInt(makings.size() < 4 ? 4 : 14);
        if (kind < 2) {
            drawPair();
        } else if (kind < 3) {
            String word = word(3);
            keep("word " + word, used -> Mills.word(used, word), Meaning.pair(word, word, 0));
        } else if (kind < 4) {
            drawRule();
        } else if (kind < 5) {
            keep("any", AffixWorks::any, Meaning.any());
        } else {
            drawOfMachines(kind, machine(), machine());
        }
    }

    private void drawPair() {
        int upper = letterOr(AffixWorks.EMPTY);
        int lower = random.nextInt(3) == 0 ? upper : letterOr(AffixWorks.EMPTY);
        int cost = random.nextBoolean() ? 0 : random.nextInt(5);
        keep("pair " + upper + " " + lower + " " + cost, used -> used.pair(upper, lower, cost),
                Meaning.pair(text(upper), text(lower), cost));
    }

    private static String text(int letter) {
        return letter == AffixWorks.EMPTY ? "" : "" + letter;
    }

    private void drawRule() {
        int f = letter();
        int t = letterOr(AffixWorks.EMPTY);
        int l = letterOr(AffixWorks.NONE);
        int r = letterOr(AffixWorks.NONE);
        boolean isFree = random.nextBoolean();
        keep("rule " + f + " " + t + " " + l + " " + r + " " + isFree,
                used -> used.rule(f, t, l, r, isFree), Meaning.rule(f, t, l, r, isFree));
    }

    private void drawOfMachines(int kind, int one, int other) {
        Meaning first = meanings.get(one);
        Meaning second = meanings.get(other);
        boolean isSo = random.nextBoolean();
        if (kind < 7) {
            keep("join " + one + " " + other, used -> used.join(one, other), Meaning.join(first, second));
        } else if (kind < 9) {
            keep("unite " + one + " " + other, used -> used.unite(one, other),
                    Meaning.unite(first, second));
        } else if (kind < 10) {
            drawRepeat(one, first);
        } else if (kind < 11) {
            keep("turn " + one, used -> used.turn(one), Meaning.turn(first));
        } else if (kind < 12) {
            keep("compose " + one + " " + other, used -> used.compose(one, other),
                    Meaning.compose(first, second));
        } else if (kind < 13) {
            keep("side " + one + " " + isSo, used -> used.side(one, isSo), Meaning.side(first, isSo));
        } else if (mill.isPlain(one) && mill.isPlain(other)) {
            drawOfPlainOnes(one, other, isSo);
        }
    }

    private void drawRepeat(int one, Meaning once) {
        if (once.relatesEmptyWord()) {
            CHECK.refused(name + told + " repeat " + one, Check.STATE, () -> mill.repeat(one));
        } else {
            keep("repeat " + one, used -> used.repeat(one), Meaning.repeat(once));
        }
    }

    private void drawOfPlainOnes(int one, int other, boolean isSo) {
        if (one == other && isSo) {
            keep("least " + one, used -> used.least(one), meanings.get(one));
        } else {
            keep("meet " + one + " " + other + " " + isSo, used -> used.meet(one, other, isSo),
                    Meaning.meet(meanings.get(one), meanings.get(other), isSo));
        }
    }

    /** Machines that would be too large, or rules that are not possible, are left out. */
    private void keep(String what, Making making, Meaning meaning) {
        String made = Check.outcome(() -> making.in(mill));
        if (!made.equals(Check.STATE)) {
            CHECK.same(name + told + " " + what, made, "" + makings.size());
            makings.add(making);
            meanings.add(meaning);
            told.add(what);
        }
    }

    // ---- what is compared

    private void same(String what, Object got, Object due) {
        CHECK.same(name + told + " " + what, got.toString(), due.toString());
    }

    private void look(String word, int machine) {
        try {
            Meaning meaning = meanings.get(machine);
            lookAtAnswers(word, machine, false, meaning.of(word, false));
            lookAtAnswers(word, machine, true, meaning.of(word, true));
            lookAtMending(word, machine, meaning);
        } catch (Meaning.TooMany e) {
            skipped++;
        }
    }

    private void lookAtAnswers(String word, int machine, boolean isUp, TreeMap<String, Integer> due) {
        String what = machine + (isUp ? " up from " : " down from ") + word;
        StringBuilder text = new StringBuilder(Math.min(20, due.size()) + ":");
        due.keySet().stream().limit(20).forEach(answer -> text.append(' ').append(answer));
        same("answers of " + what, Mills.answers(mill, machine, isUp), text);
        int least = due.values().stream().min(Integer::compare).orElse(-1);
        same("cost of " + what, mill.cost(machine, isUp), least);
        String best = due.keySet().stream().filter(answer -> due.get(answer) == least).findFirst()
                .orElse("none");
        same("best of " + what, Mills.best(mill, machine, isUp), best);
        if (mill.isPlain(machine)) {
            same("what the plain one relates, of " + what, text, due.isEmpty() ? "0:" : "1: " + word);
        }
    }

    private void lookAtMending(String word, int machine, Meaning meaning) {
        String nearest = null;
        int changes = Integer.MAX_VALUE;
        for (String upper : words(LETTERS, MOST_LETTERS)) {
            int distance = Net.distance(upper, word);
            boolean isNearer = distance < changes
                    || distance == changes && upper.compareTo(nearest) < 0;
            if (isNearer && meaning.hasUpper(upper)) {
                nearest = upper;
                changes = distance;
            }
        }
        // Words that are longer than those that were tried take more changes.
        if (nearest != null && changes <= MOST_LETTERS - word.length()) {
            same("changes of " + word + " for " + machine, mill.changes(machine), changes);
            same("mending of " + word + " for " + machine, Mills.mended(mill, machine), nearest);
        }
    }

    private void lookApart(int one, int other) {
        try {
            if (mill.isPlain(one) && mill.isPlain(other)) {
                String apart = Check.outcome(() -> mill.apart(one, other, 0));
                if (!apart.equals(Check.STATE)) {
                    lookApartByWords(one, other);
                }
            }
        } catch (Meaning.TooMany e) {
            skipped++;
        }
    }

    private void lookApartByWords(int one, int other) {
        String got = Mills.apart(mill, one, other);
        for (String word : words(LETTERS, MOST_LETTERS)) {
            if (meanings.get(one).hasUpper(word) != meanings.get(other).hasUpper(word)) {
                same("apart " + one + " " + other, got, word);
                return;
            }
        }
        CHECK.is(name + told + " apart " + one + " " + other + " by " + got, true,
                got.equals("none") || got.length() > MOST_LETTERS);
    }

    /** All words of so many letters, shorter ones first, then letter by letter. */
    private static List<String> words(int letters, int most) {
        List<String> words = new ArrayList<>(List.of(""));
        for (int next = 0; words.get(next).length() < most; next++) {
            for (int letter = 0; letter < letters; letter++) {
                words.add(words.get(next) + letter);
            }
        }
        return words;
    }

    // ---- the shape of each machine

    private void checkShape(int machine) {
        begin();
        Shape shape = new Shape(mill, machine);
        same("shape of " + machine, shape.fault(), "none");
    }
}
