/** Promise 22, its boundaries: no answer, no cost, the greatest costs, the least of several. */
public final class Promise22CostTest {
    private static final boolean DOWN = false;
    private static final boolean UP = true;

    public static void main(String[] args) {
        Cases.run(Promise22CostTest.class);
    }

    static void promise22_noMachineIsRefused(Check check) {
        Bounds.noMachineIsRefused(check, (mill, machine) -> mill.cost(machine, DOWN));
    }

    static void promise22_of3_0To2AreTaken_minus1And3AreRefused(Check check) {
        Bounds.machinesBesideAreRefused(check, (mill, machine) -> mill.cost(machine, DOWN));
        Bounds.machinesBesideAreRefused(check, (mill, machine) -> mill.cost(machine, UP));
    }

    static void promise22_of24_23IsTaken_24IsRefused(Check check) {
        AffixWorks mill = Bounds.withMachines(24);
        check.due("machine 23", -1, () -> mill.cost(23, DOWN));
        check.refusedUnchanged("machine 24", Check.INDEX, mill, () -> mill.cost(24, DOWN));
    }

    static void promise22_noAnswerIsMinus1(Check check) {
        AffixWorks mill = new AffixWorks();
        int pair = mill.pair(1, 2, 0);
        int nothing = Bounds.nothing(mill);
        check.due("no letter", -1, () -> mill.cost(pair, DOWN));
        check.due("of nothing", -1, () -> mill.cost(nothing, DOWN));
        check.due("of nothing up", -1, () -> mill.cost(nothing, UP));
        mill.type(2);
        check.due("another letter", -1, () -> mill.cost(pair, DOWN));
        mill.type(2);
        check.due("a letter too many", -1, () -> mill.cost(pair, UP));
    }

    static void promise22_answersOfNoCostAre0(Check check) {
        AffixWorks mill = new AffixWorks();
        int empty = mill.word();
        int pair = mill.pair(1, 2, 0);
        check.due("the empty word", 0, () -> mill.cost(empty, DOWN));
        check.due("the empty word up", 0, () -> mill.cost(empty, UP));
        mill.type(1);
        check.due("a pair", 0, () -> mill.cost(pair, DOWN));
    }

    static void promise22_pairsCost1To100(Check check) {
        AffixWorks mill = Mills.typed("1");
        for (int cost : new int[] {1, 99, 100}) {
            int pair = mill.pair(1, 1, cost);
            check.due("down", cost, () -> mill.cost(pair, DOWN));
            check.due("up", cost, () -> mill.cost(pair, UP));
        }
    }

    static void promise22_leastOfSeveralAnswers(Check check) {
        AffixWorks mill = new AffixWorks();
        int one = mill.unite(mill.pair(1, 2, 100), mill.pair(1, 3, 99));
        int other = mill.unite(mill.pair(1, 3, 99), mill.pair(1, 2, 100));
        mill.type(1);
        check.due("the second one", 99, () -> mill.cost(one, DOWN));
        check.due("the first one", 99, () -> mill.cost(other, DOWN));
    }

    static void promise22_leastOfSeveralWays(Check check) {
        AffixWorks mill = new AffixWorks();
        int one = mill.unite(mill.pair(1, 2, 1), mill.pair(1, 2, 0));
        mill.type(1);
        check.due("of two ways", 0, () -> mill.cost(one, DOWN));
        check.due("none up", -1, () -> mill.cost(one, UP));
    }

    static void promise22_emptyArcsCostToo(Check check) {
        AffixWorks mill = new AffixWorks();
        int idle = mill.pair(8, 8, 7);
        int ways = mill.join(idle, mill.join(mill.pair(1, 8, 10), mill.join(mill.pair(8, 2, 100), idle)));
        mill.type(1);
        check.due("down", 124, () -> mill.cost(ways, DOWN));
        Mills.retype(mill, "2");
        check.due("up", 124, () -> mill.cost(ways, UP));
    }

    static void promise22_arcsOf1000000AddUp(Check check) {
        AffixWorks mill = new AffixWorks();
        int dearest = Bounds.dearest(mill);
        int two = mill.join(dearest, dearest);
        int four = mill.join(two, two);
        int eight = mill.join(four, four);
        Mills.retype(mill, "1");
        check.due("one", 1000000, () -> mill.cost(dearest, DOWN));
        Mills.retype(mill, "11111111");
        check.due("eight", 8000000, () -> mill.cost(eight, DOWN));
        check.due("eight up", 8000000, () -> mill.cost(eight, UP));
    }

    /** No letter is typed, and four are put, each for 1000000. */
    static void promise22_arcsOf1000000ThatReadNothingAddUp(Check check) {
        AffixWorks mill = new AffixWorks();
        int put = mill.turn(mill.compose(Bounds.dearest(mill), mill.pair(1, 8, 0)));
        int two = mill.join(put, put);
        int four = mill.join(two, two);
        check.due("machines", 23, () -> Mills.count(mill));
        check.due("four", 4000000, () -> mill.cost(four, DOWN));
    }

    static void promise22_answersBehindTheTwentiethCountToo(Check check) {
        AffixWorks mill = new AffixWorks();
        int free = mill.rule(0, 1, -1, -1, true);
        int dear = mill.pair(2, 2, 5);
        int cheap = mill.pair(2, 3, 4);
        int words = mill.join(mill.unite(dear, cheap), free);
        Mills.retype(mill, "2000000");
        check.due("answers", 20, () -> mill.answers(words, DOWN));
        check.due("the cheapest are behind 64 others", 4, () -> mill.cost(words, DOWN));
    }

    static void promise22_typedWordOf8Letters(Check check) {
        AffixWorks mill = new AffixWorks();
        int rows = mill.repeat(mill.pair(1, 2, 100));
        Mills.retype(mill, "11111111");
        check.due("down", 800, () -> mill.cost(rows, DOWN));
        Mills.retype(mill, "22222222");
        check.due("up", 800, () -> mill.cost(rows, UP));
        mill.clear();
        check.due("of no letter", 0, () -> mill.cost(rows, UP));
    }
}
