/** Promise 23, its boundaries: places, no answer, the first of several that cost the same. */
public final class Promise23BestTest {
    private static final boolean DOWN = false;
    private static final boolean UP = true;

    public static void main(String[] args) {
        Cases.run(Promise23BestTest.class);
    }

    static void promise23_noMachineIsRefused(Check check) {
        Bounds.noMachineIsRefused(check, (mill, machine) -> mill.best(machine, DOWN, 0));
    }

    static void promise23_of3_0To2AreTaken_minus1And3AreRefused(Check check) {
        Bounds.machinesBesideAreRefused(check, (mill, machine) -> mill.best(machine, DOWN, 0));
        Bounds.machinesBesideAreRefused(check, (mill, machine) -> mill.best(machine, UP, 0));
    }

    static void promise23_of24_23IsTaken_24IsRefused(Check check) {
        Bounds.machine23IsTaken24Refused(check, (mill, machine) -> mill.best(machine, UP, 0));
    }

    static void promise23_place0IsTaken_minus1IsRefused(Check check) {
        AffixWorks mill = Mills.typed("12");
        mill.word();
        check.refusedUnchanged("place -1", Check.INDEX, mill, () -> mill.best(0, DOWN, -1));
        check.refusedUnchanged("place far below", Check.INDEX, mill, () -> mill.best(0, UP, Integer.MIN_VALUE));
        check.due("place 0", 1, () -> mill.best(0, DOWN, 0));
    }

    static void promise23_placeMinus1OfNoAnswerIsRefused(Check check) {
        AffixWorks mill = Mills.typed("1");
        int nothing = Bounds.nothing(mill);
        check.refusedUnchanged("place -1", Check.INDEX, mill, () -> mill.best(nothing, DOWN, -1));
    }

    static void promise23_placeBehindTheLastLetterIs8(Check check) {
        AffixWorks mill = Mills.typed("12");
        mill.word();
        check.due("the last letter", 2, () -> mill.best(0, DOWN, 1));
        check.due("behind it", 8, () -> mill.best(0, DOWN, 2));
        check.due("as far as can be", 8, () -> mill.best(0, UP, Integer.MAX_VALUE));
    }

    static void promise23_noAnswerIsMinus1AtAnyPlace(Check check) {
        AffixWorks mill = Mills.typed("12");
        int pair = mill.pair(1, 2, 3);
        int nothing = Bounds.nothing(mill);
        for (int machine : new int[] {pair, nothing}) {
            check.due("place 0", -1, () -> mill.best(machine, DOWN, 0));
            check.due("place 0 up", -1, () -> mill.best(machine, UP, 0));
            check.due("far behind", -1, () -> mill.best(machine, DOWN, Integer.MAX_VALUE));
        }
    }

    static void promise23_emptyAnswerIs8(Check check) {
        AffixWorks mill = new AffixWorks();
        mill.word();
        check.due("place 0", 8, () -> mill.best(0, DOWN, 0));
        check.due("place 0 up", 8, () -> mill.best(0, UP, 0));
    }

    static void promise23_ofTheSameCostTheFirstInOrder(Check check) {
        AffixWorks mill = new AffixWorks();
        int one = mill.unite(mill.pair(1, 3, 5), mill.pair(1, 2, 5));
        int longer = mill.unite(mill.join(mill.pair(1, 2, 5), mill.pair(8, 0, 0)), one);
        int empty = mill.unite(longer, mill.pair(1, 8, 5));
        mill.type(1);
        check.same("of 3 and 2", Mills.best(mill, one, DOWN), "2");
        check.same("of 20, 3 and 2", Mills.best(mill, longer, DOWN), "2");
        check.same("of these and none", Mills.best(mill, empty, DOWN), "");
    }

    static void promise23_cheaperByOneGoesAheadOfTheOrder(Check check) {
        AffixWorks mill = new AffixWorks();
        int later = mill.unite(mill.pair(1, 2, 5), mill.pair(1, 3, 4));
        int longer = mill.unite(mill.pair(1, 8, 1), mill.join(mill.pair(1, 7, 0), mill.pair(8, 7, 0)));
        mill.type(1);
        check.same("of 2 and 3", Mills.best(mill, later, DOWN), "3");
        check.same("of none and 77", Mills.best(mill, longer, DOWN), "77");
    }

    static void promise23_answerCostsWhatItsCheapestWayCosts(Check check) {
        AffixWorks mill = new AffixWorks();
        int two = mill.unite(mill.pair(1, 2, 9), mill.pair(1, 2, 3));
        int both = mill.unite(two, mill.pair(1, 0, 4));
        mill.type(1);
        check.same("of 2, by two ways, and 0", Mills.best(mill, both, DOWN), "2");
    }

    static void promise23_answersBehindTheTwentiethCountToo(Check check) {
        AffixWorks mill = new AffixWorks();
        int free = mill.rule(0, 1, -1, -1, true);
        int words = mill.join(mill.unite(mill.pair(2, 2, 5), mill.pair(2, 3, 4)), free);
        Mills.retype(mill, "2000000");
        check.same("the first behind 64 others", Mills.best(mill, words, DOWN), "3000000");
    }

    static void promise23_answersMayHaveMoreThan8Letters(Check check) {
        AffixWorks mill = new AffixWorks();
        int put = mill.pair(8, 3, 1);
        int two = mill.join(put, put);
        int four = mill.join(two, two);
        int eight = mill.join(four, four);
        int nine = mill.join(eight, put);
        check.same("9 letters", Mills.best(mill, nine, DOWN), "333333333");
        check.due("place 8", 3, () -> mill.best(nine, DOWN, 8));
        check.due("place 9", 8, () -> mill.best(nine, DOWN, 9));
    }

    static void promise23_typedWordOf8Letters(Check check) {
        AffixWorks mill = new AffixWorks();
        int rows = mill.repeat(mill.unite(mill.pair(1, 3, 2), mill.pair(1, 4, 1)));
        Mills.retype(mill, "11111111");
        check.same("down", Mills.best(mill, rows, DOWN), "44444444");
        Mills.retype(mill, "34343434");
        check.same("up", Mills.best(mill, rows, UP), "11111111");
    }
}
