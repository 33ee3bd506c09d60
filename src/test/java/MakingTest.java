/** Promises 4 to 12 and 15: each way of making but least and meet, as the document tells it. */
public final class MakingTest {
    private static final Check CHECK = new Check("MakingTest");

    public static void main(String[] args) {
        checkPair();
        checkPairRefuses();
        checkWord();
        checkAny();
        checkJoin();
        checkUnite();
        checkRepeat();
        checkRepeatRefuses();
        checkTurn();
        checkCompose();
        checkComposeEmpty();
        checkSide();
        checkNoSuchMachine();
        checkRule();
        checkRuleOfBothSides();
        checkRuleRefuses();
        checkRulesRewrite();
        CHECK.end();
    }

    private static void shown(AffixWorks mill, int machine, String due) {
        CHECK.same("machine " + machine, Mills.show(mill, machine), due);
    }

    /** Arcs that lead from a state to a state and have a letter, the same on both sides. */
    private static String copies(int from, int first, int last, int to) {
        StringBuilder text = new StringBuilder();
        for (int letter = first; letter <= last; letter++) {
            text.append(' ').append(from).append(':').append(letter).append('/').append(letter)
                    .append("$0>").append(to);
        }
        return text.toString();
    }

    /** A machine that relates nothing. */
    private static int nothing(AffixWorks mill) {
        int pair = mill.pair(1, 2, 3);
        return mill.compose(pair, pair);
    }

    private static void checkPair() {
        AffixWorks mill = new AffixWorks();
        CHECK.due("first pair", 0, () -> mill.pair(3, 4, 5));
        CHECK.due("second pair", 1, () -> mill.pair(8, 8, 0));
        CHECK.due("third pair", 2, () -> mill.pair(0, 8, 100));
        CHECK.due("fourth pair", 3, () -> mill.pair(8, 7, 1));
        CHECK.due("fifth pair", 4, () -> mill.pair(7, 0, 99));
        shown(mill, 0, "2 [1] 0:3/4$5>1");
        shown(mill, 1, "2 [1] 0:8/8$0>1");
        shown(mill, 2, "2 [1] 0:0/8$100>1");
        shown(mill, 3, "2 [1] 0:8/7$1>1");
        shown(mill, 4, "2 [1] 0:7/0$99>1");
    }

    private static void checkPairRefuses() {
        AffixWorks mill = new AffixWorks();
        int[][] wrong = {
            {-1, 0, 0}, {9, 0, 0}, {0, -1, 0}, {0, 9, 0}, {0, 0, -1}, {0, 0, 101},
            {Integer.MIN_VALUE, 0, 0}, {0, Integer.MAX_VALUE, 0}, {0, 0, Integer.MAX_VALUE},
            {9, 9, 101}, {0, 0, Integer.MIN_VALUE},
        };
        for (int[] pair : wrong) {
            CHECK.refused("pair(" + pair[0] + ", " + pair[1] + ", " + pair[2] + ")", Check.ARGUMENT,
                    () -> mill.pair(pair[0], pair[1], pair[2]));
        }
        CHECK.due("none of them is made", 0, () -> mill.pair(0, 0, 0));
    }

    private static void checkWord() {
        AffixWorks mill = Mills.typed("220");
        CHECK.due("word", 0, () -> mill.word());
        shown(mill, 0, "4 [3] 0:2/2$0>1 1:2/2$0>2 2:0/0$0>3");
        CHECK.due("the word stays", 3, () -> mill.clear());
        CHECK.due("the empty word", 1, () -> mill.word());
        shown(mill, 1, "1 [0]");
        Mills.retype(mill, "76543210");
        CHECK.due("the longest word", 2, () -> mill.word());
        shown(mill, 2, "9 [8] 0:7/7$0>1 1:6/6$0>2 2:5/5$0>3 3:4/4$0>4 4:3/3$0>5 5:2/2$0>6"
                + " 6:1/1$0>7 7:0/0$0>8");
        mill.clear();
        shown(mill, 0, "4 [3] 0:2/2$0>1 1:2/2$0>2 2:0/0$0>3");
    }

    private static void checkAny() {
        AffixWorks mill = Mills.typed("3");
        CHECK.due("any", 0, () -> mill.any());
        shown(mill, 0, "2 [1]" + copies(0, 0, 7, 1));
        CHECK.due("the word stays", 1, () -> mill.clear());
    }

    private static void checkJoin() {
        AffixWorks mill = new AffixWorks();
        int one = mill.pair(1, 2, 3);
        int other = mill.pair(4, 5, 6);
        CHECK.due("join", 2, () -> mill.join(one, other));
        shown(mill, 2, "4 [3] 0:1/2$3>1 1:8/8$0>2 2:4/5$6>3");
        shown(mill, mill.join(other, one), "4 [3] 0:4/5$6>1 1:8/8$0>2 2:1/2$3>3");
        shown(mill, mill.join(one, one), "4 [3] 0:1/2$3>1 1:8/8$0>2 2:1/2$3>3");
        shown(mill, mill.join(mill.unite(one, other), one),
                "7 [6] 0:8/8$0>1 0:8/8$0>2 1:1/2$3>3 2:4/5$6>4 3:8/8$0>5 4:8/8$0>5 5:1/2$3>6");
        shown(mill, mill.join(mill.repeat(one), other),
                "5 [4] 0:8/8$0>1 0:8/8$0>2 1:1/2$3>3 2:4/5$6>4 3:8/8$0>0");
        shown(mill, mill.join(one, mill.repeat(other)),
                "5 [2] 0:1/2$3>1 1:8/8$0>2 2:8/8$0>3 3:4/5$6>4 4:8/8$0>2");
        int empty = mill.word();
        shown(mill, mill.join(empty, empty), "2 [1] 0:8/8$0>1");
        shown(mill, one, "2 [1] 0:1/2$3>1");
        int none = nothing(mill);
        shown(mill, mill.join(one, none), "1 []");
        shown(mill, mill.join(none, one), "1 []");
        // What is trimmed away takes its arcs along.
        Mills.retype(mill, "0");
        int loop = mill.least(mill.repeat(mill.word()));
        shown(mill, loop, "1 [0] 0:0/0$0>0");
        shown(mill, mill.join(loop, none), "1 []");
    }

    private static void checkUnite() {
        AffixWorks mill = new AffixWorks();
        int one = mill.pair(1, 2, 3);
        int other = mill.pair(4, 5, 6);
        CHECK.due("unite", 2, () -> mill.unite(one, other));
        shown(mill, 2, "5 [3 4] 0:8/8$0>1 0:8/8$0>2 1:1/2$3>3 2:4/5$6>4");
        shown(mill, mill.unite(other, one), "5 [3 4] 0:8/8$0>1 0:8/8$0>2 1:4/5$6>3 2:1/2$3>4");
        shown(mill, mill.unite(one, one), "5 [3 4] 0:8/8$0>1 0:8/8$0>2 1:1/2$3>3 2:1/2$3>4");
        int none = nothing(mill);
        shown(mill, mill.unite(none, one), "3 [2] 0:8/8$0>1 1:1/2$3>2");
        shown(mill, mill.unite(one, none), "3 [2] 0:8/8$0>1 1:1/2$3>2");
        shown(mill, mill.unite(none, none), "1 []");
        int empty = mill.word();
        shown(mill, mill.unite(empty, one), "4 [1 3] 0:8/8$0>1 0:8/8$0>2 2:1/2$3>3");
        shown(mill, mill.unite(one, empty), "4 [2 3] 0:8/8$0>1 0:8/8$0>2 1:1/2$3>3");
    }

    private static void checkRepeat() {
        AffixWorks mill = new AffixWorks();
        int one = mill.pair(1, 2, 3);
        CHECK.due("repeat", 1, () -> mill.repeat(one));
        shown(mill, 1, "3 [0] 0:8/8$0>1 1:1/2$3>2 2:8/8$0>0");
        shown(mill, mill.repeat(mill.unite(one, mill.pair(4, 5, 6))),
                "6 [0] 0:8/8$0>1 1:8/8$0>2 1:8/8$0>3 2:1/2$3>4 3:4/5$6>5 4:8/8$0>0 5:8/8$0>0");
        shown(mill, mill.repeat(nothing(mill)), "1 [0]");
        int away = mill.pair(1, 8, 0);
        int put = mill.pair(8, 1, 0);
        shown(mill, mill.repeat(mill.join(away, put)),
                "5 [0] 0:8/8$0>1 1:1/8$0>2 2:8/8$0>3 3:8/1$0>4 4:8/8$0>0");
    }

    private static void checkRepeatRefuses() {
        AffixWorks mill = new AffixWorks();
        int one = mill.pair(1, 2, 3);
        int away = mill.pair(1, 8, 0);
        int put = mill.pair(8, 1, 0);
        int idle = mill.pair(8, 8, 7);
        int empty = mill.word();
        int[] wrong = {
            away, put, idle, empty, mill.repeat(one), mill.unite(one, away), mill.unite(put, one),
            mill.unite(empty, one), mill.join(away, away), mill.join(put, put),
            mill.join(idle, put), mill.join(away, idle),
        };
        for (int machine : wrong) {
            String shown = Mills.show(mill, machine);
            CHECK.refused("repeat of " + shown, Check.STATE, () -> mill.repeat(machine));
        }
        // The way of empty letters goes on from a state that is found early by another way.
        int late = mill.join(mill.unite(mill.any(), mill.join(idle, idle)), idle);
        CHECK.due("none of them is made", 16, () -> late);
        CHECK.refused("repeat of a late empty way", Check.STATE, () -> mill.repeat(late));
        CHECK.due("an empty letter that is not alone", 18, () -> mill.repeat(mill.join(put, one)));
    }

    /** Relates 15 to 45 and 26 to itself; its arcs change their order if it is turned. */
    private static int crossing(AffixWorks mill) {
        int words = mill.unite(Mills.word(mill, "15"), Mills.word(mill, "26"));
        return mill.compose(mill.least(words), mill.rule(1, 4, -1, -1, false));
    }

    private static void checkTurn() {
        AffixWorks mill = new AffixWorks();
        int one = mill.pair(1, 2, 3);
        CHECK.due("turn", 1, () -> mill.turn(one));
        shown(mill, 1, "2 [1] 0:2/1$3>1");
        shown(mill, mill.turn(1), "2 [1] 0:1/2$3>1");
        int crossing = crossing(mill);
        shown(mill, crossing, "4 [3] 0:1/4$0>1 0:2/2$0>2 1:5/5$0>3 2:6/6$0>3");
        shown(mill, mill.turn(crossing), "4 [3] 0:2/2$0>1 0:4/1$0>2 1:6/6$0>3 2:5/5$0>3");
        shown(mill, mill.turn(mill.pair(8, 3, 2)), "2 [1] 0:3/8$2>1");
        shown(mill, mill.turn(nothing(mill)), "1 []");
    }

    private static void checkCompose() {
        AffixWorks mill = new AffixWorks();
        int one = mill.pair(1, 2, 3);
        int other = mill.pair(2, 6, 4);
        CHECK.due("compose", 2, () -> mill.compose(one, other));
        shown(mill, 2, "2 [1] 0:1/6$7>1");
        shown(mill, mill.compose(other, one), "1 []");
        // Pairs of states go in the order of the first machine, then of the second one.
        int swap = mill.unite(mill.pair(1, 2, 1), mill.pair(2, 1, 2));
        shown(mill, mill.compose(swap, swap),
                "9 [7 8] 0:8/8$0>1 0:8/8$0>2 0:8/8$0>3 0:8/8$0>4 1:8/8$0>5 2:8/8$0>6"
                + " 3:8/8$0>6 4:8/8$0>5 5:2/2$3>7 6:1/1$3>8");
    }

    private static void checkComposeEmpty() {
        AffixWorks mill = new AffixWorks();
        int away = mill.pair(1, 8, 2);
        int put = mill.pair(8, 5, 3);
        // Empty letters do not meet: each machine moves by itself.
        shown(mill, mill.compose(away, put),
                "4 [3] 0:1/8$2>1 0:8/5$3>2 1:8/5$3>3 2:1/8$2>3");
        shown(mill, mill.compose(put, away), "1 []");
        shown(mill, mill.compose(put, mill.pair(5, 8, 4)), "2 [1] 0:8/8$7>1");
        shown(mill, mill.compose(away, mill.word()), "2 [1] 0:1/8$2>1");
        shown(mill, mill.compose(mill.word(), put), "2 [1] 0:8/5$3>1");
        // No arc is left of a way that leads to no end.
        Mills.retype(mill, "0");
        int loop = mill.least(mill.repeat(mill.word()));
        Mills.retype(mill, "1");
        int one = mill.least(mill.join(loop, mill.word()));
        Mills.retype(mill, "2");
        int two = mill.least(mill.join(loop, mill.word()));
        shown(mill, mill.compose(one, two), "1 []");
    }

    private static void checkSide() {
        AffixWorks mill = new AffixWorks();
        int one = mill.pair(1, 2, 3);
        CHECK.due("upper side", 1, () -> mill.side(one, true));
        CHECK.due("lower side", 2, () -> mill.side(one, false));
        shown(mill, 1, "2 [1] 0:1/1$0>1");
        shown(mill, 2, "2 [1] 0:2/2$0>1");
        int crossing = crossing(mill);
        shown(mill, mill.side(crossing, true), "4 [3] 0:1/1$0>1 0:2/2$0>2 1:5/5$0>3 2:6/6$0>3");
        shown(mill, mill.side(crossing, false), "4 [3] 0:2/2$0>1 0:4/4$0>2 1:6/6$0>3 2:5/5$0>3");
        int put = mill.pair(8, 3, 7);
        shown(mill, mill.side(put, true), "2 [1] 0:8/8$0>1");
        shown(mill, mill.side(put, false), "2 [1] 0:3/3$0>1");
        // Two arcs become one where they are the same.
        int free = mill.rule(1, 2, -1, -1, true);
        shown(mill, mill.side(free, true), "1 [0]" + copies(0, 0, 7, 0));
        shown(mill, mill.side(free, false), "1 [0]" + copies(0, 0, 7, 0));
        shown(mill, mill.side(nothing(mill), true), "1 []");
    }

    private static void checkNoSuchMachine() {
        AffixWorks mill = new AffixWorks();
        mill.pair(1, 2, 3);
        mill.any();
        int[] wrong = {-1, 2, 23, 24, Integer.MAX_VALUE, Integer.MIN_VALUE};
        for (int machine : wrong) {
            CHECK.refused("join ahead of " + machine, Check.INDEX, () -> mill.join(0, machine));
            CHECK.refused("join behind " + machine, Check.INDEX, () -> mill.join(machine, 0));
            CHECK.refused("unite with " + machine, Check.INDEX, () -> mill.unite(0, machine));
            CHECK.refused("unite " + machine, Check.INDEX, () -> mill.unite(machine, 0));
            CHECK.refused("repeat " + machine, Check.INDEX, () -> mill.repeat(machine));
            CHECK.refused("turn " + machine, Check.INDEX, () -> mill.turn(machine));
            CHECK.refused("compose with " + machine, Check.INDEX, () -> mill.compose(0, machine));
            CHECK.refused("compose " + machine, Check.INDEX, () -> mill.compose(machine, 0));
            CHECK.refused("side of " + machine, Check.INDEX, () -> mill.side(machine, true));
            CHECK.refused("lower side of " + machine, Check.INDEX, () -> mill.side(machine, false));
        }
        CHECK.due("none of them is made", 2, () -> mill.any());
    }

    private static void checkRule() {
        AffixWorks mill = Mills.typed("11");
        CHECK.due("rule", 0, () -> mill.rule(1, 2, -1, -1, false));
        shown(mill, 0, "1 [0] 0:0/0$0>0 0:1/2$0>0" + copies(0, 2, 7, 0));
        shown(mill, mill.rule(1, 2, -1, -1, true),
                "1 [0] 0:0/0$0>0 0:1/1$0>0 0:1/2$0>0" + copies(0, 2, 7, 0));
        shown(mill, mill.rule(1, 1, -1, -1, false), "1 [0]" + copies(0, 0, 7, 0));
        shown(mill, mill.rule(1, 2, 3, -1, false),
                "2 [0 1]" + copies(0, 0, 2, 0) + " 0:3/3$0>1" + copies(0, 4, 7, 0)
                + " 1:0/0$0>0 1:1/2$0>0 1:2/2$0>0 1:3/3$0>1" + copies(1, 4, 7, 0));
        shown(mill, mill.rule(1, 8, 3, -1, true),
                "2 [0 1]" + copies(0, 0, 2, 0) + " 0:3/3$0>1" + copies(0, 4, 7, 0)
                + " 1:0/0$0>0 1:1/1$0>0 1:1/8$0>0 1:2/2$0>0 1:3/3$0>1" + copies(1, 4, 7, 0));
        shown(mill, mill.rule(1, 2, -1, 3, false),
                "3 [0 1] 0:0/0$0>0 0:1/1$0>1 0:1/2$0>2" + copies(0, 2, 7, 0)
                + " 1:0/0$0>0 1:1/1$0>1 1:1/2$0>2 1:2/2$0>0" + copies(1, 4, 7, 0)
                + " 2:3/3$0>0");
        shown(mill, mill.rule(1, 2, -1, 3, true),
                "3 [0 1] 0:0/0$0>0 0:1/1$0>0 0:1/1$0>1 0:1/2$0>2" + copies(0, 2, 7, 0)
                + " 1:0/0$0>0 1:1/1$0>0 1:1/1$0>1 1:1/2$0>2 1:2/2$0>0" + copies(1, 4, 7, 0)
                + " 2:3/3$0>0");
        CHECK.due("the word stays", 2, () -> mill.clear());
    }

    private static void checkRuleOfBothSides() {
        AffixWorks mill = new AffixWorks();
        // States: 0 (0, 0), 1 behind a 3: (1, 0), 2 (0, 2), 3 (0, 1).
        shown(mill, mill.rule(1, 2, 3, 4, false),
                "4 [0 1 2]" + copies(0, 0, 2, 0) + " 0:3/3$0>1" + copies(0, 4, 7, 0)
                + " 1:0/0$0>0 1:1/1$0>2 1:1/2$0>3 1:2/2$0>0 1:3/3$0>1" + copies(1, 4, 7, 0)
                + copies(2, 0, 2, 0) + " 2:3/3$0>1" + copies(2, 5, 7, 0)
                + " 3:4/4$0>0");
        // The letter that is rewritten is the one behind too, as it was in the upper word.
        shown(mill, mill.rule(1, 2, -1, 1, false),
                "3 [0 1] 0:0/0$0>0 0:1/1$0>1 0:1/2$0>2" + copies(0, 2, 7, 0)
                + " 1:0/0$0>0" + copies(1, 2, 7, 0)
                + " 2:1/1$0>1 2:1/2$0>2");
        // And the one ahead.
        shown(mill, mill.rule(1, 2, 1, -1, false),
                "2 [0 1] 0:0/0$0>0 0:1/1$0>1" + copies(0, 2, 7, 0)
                + " 1:0/0$0>0 1:1/2$0>1" + copies(1, 2, 7, 0));
    }

    /** A rule's machine relates each word to what the rule makes of it, and, if free, to itself. */
    private static void checkRulesRewrite() {
        int[][] rules = {
            {1, 2, -1, -1}, {1, 2, 1, -1}, {1, 2, -1, 1}, {1, 2, 1, 1}, {1, 2, 0, 2}, {1, 0, 2, 0},
            {1, 8, 0, 2}, {1, 8, 1, 2}, {1, 8, 2, 1}, {1, 8, -1, 0}, {0, 0, 0, 0}, {2, 1, 2, 1},
        };
        for (int[] rule : rules) {
            AffixWorks mill = new AffixWorks();
            int all = mill.rule(rule[0], rule[1], rule[2], rule[3], false);
            int some = mill.rule(rule[0], rule[1], rule[2], rule[3], true);
            for (int word = 0; word < 81; word++) {
                String typed = Integer.toString(word + 81, 3).substring(1);
                Mills.retype(mill, typed);
                String made = Mills.ruled(mill, rule[0], rule[1], rule[2], rule[3]);
                String call = java.util.Arrays.toString(rule) + " of " + typed;
                CHECK.same("all: " + call, Mills.answers(mill, all, false), "1: " + made);
                String free = Mills.answers(mill, some, false) + " ";
                CHECK.due("some, but all: " + call, 1, () -> free.contains(" " + made + " ") ? 1 : 0);
                CHECK.due("some, but none: " + call, 1, () -> free.contains(" " + typed + " ") ? 1 : 0);
            }
        }
    }

    private static void checkRuleRefuses() {
        AffixWorks mill = new AffixWorks();
        int[][] wrong = {
            {-1, 0, 0, 0}, {8, 0, 0, 0}, {0, -1, 0, 0}, {0, 9, 0, 0}, {0, 0, -2, 0}, {0, 0, 8, 0},
            {0, 0, 0, -2}, {0, 0, 0, 8}, {8, 8, -1, -1}, {1, 8, -1, 8}, {1, 8, -2, -1},
            {Integer.MAX_VALUE, 0, 0, 0}, {0, Integer.MIN_VALUE, 0, 0}, {0, 0, 0, Integer.MAX_VALUE},
        };
        int[][] endless = {{1, 8, -1, -1}, {1, 8, 1, -1}, {1, 8, -1, 1}, {1, 8, 1, 1}, {7, 8, -1, 7}};
        for (int free = 0; free < 2; free++) {
            boolean isFree = free == 1;
            for (int[] rule : wrong) {
                CHECK.refused("rule " + java.util.Arrays.toString(rule), Check.ARGUMENT,
                        () -> mill.rule(rule[0], rule[1], rule[2], rule[3], isFree));
            }
            for (int[] rule : endless) {
                CHECK.refused("rule " + java.util.Arrays.toString(rule), Check.STATE,
                        () -> mill.rule(rule[0], rule[1], rule[2], rule[3], isFree));
            }
        }
        int[][] right = {
            {1, 8, 2, -1}, {1, 8, -1, 2}, {1, 8, 1, 2}, {1, 8, 2, 1}, {1, 8, 2, 2}, {0, 7, 7, 0},
            {7, 0, 0, 7}, {1, 1, -1, -1}, {1, 0, 1, 1},
        };
        for (int at = 0; at < right.length; at++) {
            int[] rule = right[at];
            CHECK.due("rule " + java.util.Arrays.toString(rule), at,
                    () -> mill.rule(rule[0], rule[1], rule[2], rule[3], false));
        }
    }
}
