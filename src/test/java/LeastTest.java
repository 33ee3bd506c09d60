/** Promises 13 and 14: least, meet; and the sets that they look at. */
public final class LeastTest {
    private static final Check CHECK = new Check("LeastTest");

    public static void main(String[] args) {
        checkLeast();
        checkLeastIsLeast();
        checkLeastRefuses();
        checkMeet();
        checkMeetOfNothing();
        checkDifference();
        checkMeetRefuses();
        checkSetsOfOne();
        checkPairsOfSets();
        checkPairsWithoutFirst();
        checkMostStatesAndDeadPairs();
        CHECK.end();
    }

    private static void shown(AffixWorks mill, int machine, String due) {
        CHECK.same("machine " + machine, Mills.show(mill, machine), due);
    }

    private static void checkLeast() {
        AffixWorks mill = new AffixWorks();
        int word = Mills.word(mill, "12");
        CHECK.due("least", 1, () -> mill.least(word));
        shown(mill, 1, "3 [2] 0:1/1$0>1 1:2/2$0>2");
        shown(mill, mill.least(mill.unite(word, word)), "3 [2] 0:1/1$0>1 1:2/2$0>2");
        shown(mill, mill.least(mill.repeat(word)), "2 [0] 0:1/1$0>1 1:2/2$0>0");
        shown(mill, mill.least(mill.pair(8, 8, 0)), "1 [0]");
        int empty = Mills.word(mill, "");
        shown(mill, mill.least(mill.join(empty, empty)), "1 [0]");
        shown(mill, mill.least(mill.meet(word, empty, true)), "1 []");
        int longer = Mills.word(mill, "121");
        shown(mill, mill.least(mill.unite(longer, word)), "4 [2 3] 0:1/1$0>1 1:2/2$0>2 2:1/1$0>3");
        shown(mill, mill.least(mill.join(mill.repeat(word), word)),
                "3 [2] 0:1/1$0>1 1:2/2$0>2 2:1/1$0>1");
    }

    /** Machines for the same words, made in two ways, have the same least machine. */
    private static void checkLeastIsLeast() {
        AffixWorks mill = new AffixWorks();
        int a = Mills.word(mill, "0");
        int b = Mills.word(mill, "1");
        int ab = mill.unite(a, b);
        // (0 | 1)* ends in 0, and (0 | 1)* 0 (0)*.
        int one = mill.join(mill.repeat(ab), a);
        int other = mill.join(one, mill.repeat(a));
        shown(mill, mill.least(one),
                "2 [1] 0:0/0$0>1 0:1/1$0>0 1:0/0$0>1 1:1/1$0>0");
        CHECK.same("made in another way", Mills.show(mill, mill.least(other)),
                Mills.show(mill, mill.least(one)));
        CHECK.same("least again", Mills.show(mill, mill.least(mill.least(one))),
                Mills.show(mill, mill.least(one)));
        // Words that end in the same way share states: 00, 10, 011, 111.
        int words = mill.join(ab, mill.unite(a, mill.join(b, b)));
        shown(mill, mill.least(words),
                "4 [2] 0:0/0$0>1 0:1/1$0>1 1:0/0$0>2 1:1/1$0>3 3:1/1$0>2");
    }

    private static void checkLeastRefuses() {
        AffixWorks mill = new AffixWorks();
        int[] wrong = {-1, 0, 24, Integer.MAX_VALUE, Integer.MIN_VALUE};
        for (int machine : wrong) {
            CHECK.refused("least of " + machine, Check.INDEX, () -> mill.least(machine));
        }
        int[] unlike = {
            mill.pair(1, 2, 0), mill.pair(1, 1, 1), mill.pair(8, 8, 1), mill.pair(1, 8, 0),
            mill.pair(8, 1, 0), mill.rule(1, 2, -1, -1, false),
        };
        for (int machine : unlike) {
            CHECK.refused("least of unlike " + machine, Check.STATE, () -> mill.least(machine));
        }
        int late = mill.join(mill.any(), unlike[1]);
        CHECK.refused("least of an arc that costs behind", Check.STATE, () -> mill.least(late));
        CHECK.due("none of them is made", 8, () -> mill.any());
        CHECK.due("a rule that rewrites nothing is plain", 10,
                () -> mill.least(mill.rule(1, 1, 2, 3, false)));
        shown(mill, 10, "1 [0] 0:0/0$0>0 0:1/1$0>0 0:2/2$0>0 0:3/3$0>0 0:4/4$0>0 0:5/5$0>0"
                + " 0:6/6$0>0 0:7/7$0>0");
    }

    /** All rows that a machine repeats, of none on; made of a word it is a cycle of its letters. */
    private static int cycle(AffixWorks mill, int machine) {
        return mill.least(mill.repeat(machine));
    }

    private static int zeros(AffixWorks mill, int letters) {
        return Mills.word(mill, "00000000".substring(0, letters));
    }

    private static void checkMeet() {
        AffixWorks mill = new AffixWorks();
        int two = cycle(mill, zeros(mill, 2));
        int three = cycle(mill, zeros(mill, 3));
        CHECK.due("meet", 6, () -> mill.meet(two, three, true));
        shown(mill, 6, "6 [0] 0:0/0$0>1 1:0/0$0>2 2:0/0$0>3 3:0/0$0>4 4:0/0$0>5 5:0/0$0>0");
        shown(mill, mill.meet(three, two, true), Mills.show(mill, 6));
        shown(mill, mill.meet(two, two, true), "2 [0] 0:0/0$0>1 1:0/0$0>0");
        int all = mill.repeat(mill.any());
        int word = zeros(mill, 2);
        shown(mill, mill.meet(all, word, true), "3 [2] 0:0/0$0>1 1:0/0$0>2");
        shown(mill, mill.meet(word, all, true), "3 [2] 0:0/0$0>1 1:0/0$0>2");
        shown(mill, mill.meet(two, word, true), "3 [2] 0:0/0$0>1 1:0/0$0>2");
        shown(mill, mill.meet(three, word, true), "1 []");
        shown(mill, mill.meet(Mills.word(mill, "1"), word, true), "1 []");
    }

    /** Both machines go on and on by 0, but end by letters that differ. */
    private static void checkMeetOfNothing() {
        AffixWorks mill = new AffixWorks();
        int loop = cycle(mill, zeros(mill, 1));
        int first = mill.least(mill.join(loop, Mills.word(mill, "1")));
        int second = mill.least(mill.join(loop, Mills.word(mill, "2")));
        shown(mill, mill.meet(first, second, true), "1 []");
        shown(mill, mill.meet(first, second, false), "2 [1] 0:0/0$0>0 0:1/1$0>1");
    }

    private static void checkDifference() {
        AffixWorks mill = new AffixWorks();
        int two = cycle(mill, zeros(mill, 2));
        int three = cycle(mill, zeros(mill, 3));
        CHECK.due("difference", 6, () -> mill.meet(two, three, false));
        shown(mill, 6, "6 [2 4] 0:0/0$0>1 1:0/0$0>2 2:0/0$0>3 3:0/0$0>4 4:0/0$0>5 5:0/0$0>0");
        shown(mill, mill.meet(three, two, false),
                "6 [3] 0:0/0$0>1 1:0/0$0>2 2:0/0$0>3 3:0/0$0>4 4:0/0$0>5 5:0/0$0>0");
        shown(mill, mill.meet(two, two, false), "1 []");
        int all = mill.repeat(mill.any());
        shown(mill, mill.meet(two, all, false), "1 []");
        int word = zeros(mill, 2);
        shown(mill, mill.meet(word, three, false), "3 [2] 0:0/0$0>1 1:0/0$0>2");
        // All words but 12.
        int least = mill.meet(all, Mills.word(mill, "12"), false);
        CHECK.due("size of all but one", 4032, () -> mill.size(least));
        CHECK.due("0 leads to the state of all", 1, () -> mill.arc(least, 0, 4));
        CHECK.due("1 leads to the next", 2, () -> mill.arc(least, 1, 4));
        CHECK.due("then 2 leads to no end", 3, () -> mill.arc(least, 18, 4));
        CHECK.due("no end", 0, () -> mill.isEnd(least, 3) ? 1 : 0);
        CHECK.due("an end", 1, () -> mill.isEnd(least, 2) ? 1 : 0);
    }

    private static void checkMeetRefuses() {
        AffixWorks mill = new AffixWorks();
        int plain = mill.any();
        int unlike = mill.pair(1, 2, 0);
        int dear = mill.pair(1, 1, 1);
        int[] wrong = {-1, 3, 24, Integer.MAX_VALUE, Integer.MIN_VALUE};
        for (int which = 0; which < 2; which++) {
            boolean isMeet = which == 1;
            for (int machine : wrong) {
                CHECK.refused("meet of " + machine, Check.INDEX,
                        () -> mill.meet(machine, plain, isMeet));
                CHECK.refused("meet with " + machine, Check.INDEX,
                        () -> mill.meet(plain, machine, isMeet));
                CHECK.refused("meet of one unlike with " + machine, Check.INDEX,
                        () -> mill.meet(unlike, machine, isMeet));
            }
            CHECK.refused("first unlike", Check.STATE, () -> mill.meet(unlike, plain, isMeet));
            CHECK.refused("second unlike", Check.STATE, () -> mill.meet(plain, unlike, isMeet));
            CHECK.refused("first costs", Check.STATE, () -> mill.meet(dear, plain, isMeet));
            CHECK.refused("second costs", Check.STATE, () -> mill.meet(plain, dear, isMeet));
        }
        CHECK.due("none of them is made", 3, () -> mill.any());
    }

    /**
     * Rows of 0, of any count, but looked at by how they go into 2, 9 and 11: 198 sets, and one
     * for no letter. A word of 1s has one set more for each letter.
     */
    private static void checkSetsOfOne() {
        AffixWorks mill = new AffixWorks();
        int oneZero = zeros(mill, 1);
        int eight = zeros(mill, 8);
        int rows = mill.unite(cycle(mill, zeros(mill, 2)), cycle(mill, mill.join(eight, oneZero)));
        rows = mill.unite(rows, cycle(mill, mill.join(eight, zeros(mill, 3))));
        rows = mill.unite(rows, cycle(mill, oneZero));
        int fits = mill.unite(rows, Mills.word(mill, "1"));
        CHECK.due("its states", 29, () -> mill.size(fits) / 1000);
        // It is looked at alone, whatever was looked at ahead of it.
        CHECK.due("apart", 0, () -> mill.apart(oneZero, eight, 0));
        shown(mill, mill.least(fits), "3 [0 1 2] 0:0/0$0>1 0:1/1$0>2 1:0/0$0>1");
        int over = mill.unite(rows, Mills.word(mill, "11"));
        CHECK.refused("least of 201 sets", Check.STATE, () -> mill.least(over));
        CHECK.refused("201 sets apart from others", Check.STATE, () -> mill.apart(over, eight, 0));
        CHECK.due("no machine is made of them", 22, () -> mill.any());
    }

    /** Rows of 0, looked at by how they go into 9 and 22: 198 pairs, and one for no letter. */
    private static void checkPairsOfSets() {
        AffixWorks mill = new AffixWorks();
        int oneZero = zeros(mill, 1);
        int eight = zeros(mill, 8);
        int nine = cycle(mill, mill.join(eight, oneZero));
        int many = cycle(mill, mill.join(mill.join(eight, eight), zeros(mill, 6)));
        int rows = mill.unite(cycle(mill, oneZero), many);
        int one = Mills.word(mill, "1");
        int two = Mills.word(mill, "11");
        int first = mill.unite(nine, one);
        int firstMore = mill.unite(nine, two);
        shown(mill, mill.meet(first, rows, false), "2 [1] 0:1/1$0>1");
        CHECK.refused("201 pairs of a difference", Check.STATE,
                () -> mill.meet(firstMore, rows, false));
        int second = mill.unite(rows, one);
        int secondMore = mill.unite(rows, two);
        // Where either set is empty a pair does not count for the meet.
        CHECK.due("199 pairs of a meet", 9009, () -> mill.size(mill.meet(firstMore, rows, true)));
        CHECK.due("200 pairs of a meet", 11011, () -> mill.size(mill.meet(first, second, true)));
        CHECK.refused("201 pairs of a meet", Check.STATE,
                () -> mill.meet(firstMore, secondMore, true));
        CHECK.due("no machine is made of them", 22, () -> mill.any());
    }

    /** Where the first set is empty a pair does not count for the difference. */
    private static void checkPairsWithoutFirst() {
        AffixWorks mill = new AffixWorks();
        int oneZero = zeros(mill, 1);
        int eight = zeros(mill, 8);
        int nine = cycle(mill, mill.join(eight, oneZero));
        int many = cycle(mill, mill.join(mill.join(eight, eight), zeros(mill, 6)));
        int rows = mill.unite(cycle(mill, oneZero), many);
        int more = mill.unite(rows, Mills.word(mill, "1111"));
        shown(mill, mill.meet(nine, more, false), "1 []");
        CHECK.refused("203 pairs apart", Check.STATE, () -> mill.apart(nine, more, 0));
    }

    /** The meet has 32 states, although there is a pair of sets more that leads to no end. */
    private static void checkMostStatesAndDeadPairs() {
        AffixWorks mill = new AffixWorks();
        int zero = zeros(mill, 1);
        int few = mill.unite(zero, Mills.word(mill, "1"));
        int all = mill.repeat(few);
        int two = mill.least(mill.join(few, few));
        int rows = mill.join(all, mill.least(mill.join(zero, mill.join(two, two))));
        int first = mill.unite(rows, Mills.word(mill, "76"));
        int second = mill.unite(all, Mills.word(mill, "75"));
        CHECK.due("a meet", 32064, () -> mill.size(mill.meet(first, second, true)));
    }
}
