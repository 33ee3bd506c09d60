/** Promise 14, its boundaries: plain machines, 200 pairs of sets, 32 states, 160 arcs, 24 machines. */
public final class Promise14MeetTest {
    private static final boolean[] WAYS = {true, false};

    public static void main(String[] args) {
        Cases.run(Promise14MeetTest.class);
    }

    static void promise14_noMachineIsRefused(Check check) {
        for (boolean isMeet : WAYS) {
            Bounds.noMachineIsRefused(check, (mill, machine) -> mill.meet(machine, machine, isMeet));
        }
    }

    static void promise14_firstOf3_0To2AreTaken_minus1And3AreRefused(Check check) {
        for (boolean isMeet : WAYS) {
            Bounds.machinesBesideAreRefused(check, (mill, machine) -> mill.meet(machine, 1, isMeet));
        }
    }

    static void promise14_secondOf3_0To2AreTaken_minus1And3AreRefused(Check check) {
        for (boolean isMeet : WAYS) {
            Bounds.machinesBesideAreRefused(check, (mill, machine) -> mill.meet(1, machine, isMeet));
        }
    }

    static void promise14_machines24AreTaken_25thIsRefused(Check check) {
        for (boolean isMeet : WAYS) {
            Bounds.machines24AreTaken25thRefused(check, mill -> mill.meet(0, 22, isMeet));
        }
    }

    static void promise14_noSuchMachineGoesAheadOf24Machines(Check check) {
        for (boolean isMeet : WAYS) {
            Bounds.indexGoesAheadOf24Machines(check, (mill, machine) -> mill.meet(machine, 0, isMeet));
            Bounds.indexGoesAheadOf24Machines(check, (mill, machine) -> mill.meet(0, machine, isMeet));
        }
    }

    static void promise14_noSuchMachineGoesAheadOfOneThatIsNotPlain(Check check) {
        AffixWorks mill = new AffixWorks();
        int unlike = mill.pair(1, 2, 3);
        for (boolean isMeet : WAYS) {
            check.refusedUnchanged("no second", Check.INDEX, mill, () -> mill.meet(unlike, 1, isMeet));
            check.refusedUnchanged("no first", Check.INDEX, mill, () -> mill.meet(-1, unlike, isMeet));
            check.refusedUnchanged("both exist", Check.STATE, mill, () -> mill.meet(unlike, unlike, isMeet));
        }
    }

    static void promise14_arcsOfCost0ArePlain_ofCost1AreRefused(Check check) {
        AffixWorks mill = new AffixWorks();
        int free = mill.pair(3, 3, 0);
        int dear = mill.pair(3, 3, 1);
        int idle = mill.pair(8, 8, 1);
        for (boolean isMeet : WAYS) {
            for (int machine : new int[] {dear, idle}) {
                check.refusedUnchanged("the first", Check.STATE, mill, () -> mill.meet(machine, free, isMeet));
                check.refusedUnchanged("the second", Check.STATE, mill, () -> mill.meet(free, machine, isMeet));
            }
        }
        check.shown("of no cost", mill, mill.meet(free, free, true), "2 [1] 0:3/3$0>1");
        check.shown("of no cost, the difference", mill, mill.meet(free, free, false), "1 []");
    }

    static void promise14_lettersThatDifferAreRefused(Check check) {
        AffixWorks mill = new AffixWorks();
        int plain = mill.any();
        for (int unlike : new int[] {mill.pair(3, 4, 0), mill.pair(3, 8, 0), mill.pair(8, 3, 0)}) {
            for (boolean isMeet : WAYS) {
                check.refusedUnchanged("the first", Check.STATE, mill, () -> mill.meet(unlike, plain, isMeet));
                check.refusedUnchanged("the second", Check.STATE, mill, () -> mill.meet(plain, unlike, isMeet));
            }
        }
    }

    /** Rows of 0 looked at by how they go into 9 and 22: 198 pairs of sets, and one for no letter. */
    private static int[] rowsOf199Pairs(AffixWorks mill) {
        int one = Bounds.zeros(mill, 1);
        int eight = Bounds.zeros(mill, 8);
        int nine = Bounds.cycle(mill, mill.join(eight, one));
        int more = mill.join(mill.join(eight, eight), Bounds.zeros(mill, 6));
        return new int[] {nine, mill.unite(Bounds.cycle(mill, one), Bounds.cycle(mill, more))};
    }

    static void promise14_pairsOfAMeet_200AreTaken_201AreRefused(Check check) {
        AffixWorks mill = new AffixWorks();
        int[] rows = rowsOf199Pairs(mill);
        int one = Mills.word(mill, "1");
        int two = Mills.word(mill, "11");
        int first = mill.unite(rows[0], one);
        int second = mill.unite(rows[1], one);
        int firstMore = mill.unite(rows[0], two);
        int secondMore = mill.unite(rows[1], two);
        check.refusedUnchanged("201 pairs", Check.STATE, mill, () -> mill.meet(firstMore, secondMore, true));
        check.refusedUnchanged("201 pairs, the other way", Check.STATE, mill,
                () -> mill.meet(secondMore, firstMore, true));
        check.due("200 pairs", 11011, () -> mill.size(mill.meet(first, second, true)));
        check.due("200 pairs, the other way", 11011, () -> mill.size(mill.meet(second, first, true)));
    }

    static void promise14_pairsWithOneEmptySetDoNotCountForAMeet(Check check) {
        AffixWorks mill = new AffixWorks();
        int[] rows = rowsOf199Pairs(mill);
        int one = Mills.word(mill, "1");
        int many = Mills.word(mill, "22222222");
        int first = mill.unite(mill.unite(rows[0], one), many);
        int second = mill.unite(rows[1], one);
        check.due("200 pairs, and 8 of the first alone", 11011, () -> mill.size(mill.meet(first, second, true)));
        check.due("200 pairs, and 8 of the second alone", 11011, () -> mill.size(mill.meet(second, first, true)));
    }

    static void promise14_pairsOfADifference_200AreTaken_201AreRefused(Check check) {
        AffixWorks mill = new AffixWorks();
        int[] rows = rowsOf199Pairs(mill);
        int one = Mills.word(mill, "1");
        int two = Mills.word(mill, "11");
        int first = mill.unite(rows[0], one);
        int second = mill.unite(rows[1], one);
        int firstMore = mill.unite(rows[0], two);
        int secondMore = mill.unite(rows[1], two);
        check.refusedUnchanged("201 pairs", Check.STATE, mill, () -> mill.meet(firstMore, secondMore, false));
        check.shown("200 pairs", mill, mill.meet(first, second, false), "1 []");
    }

    static void promise14_pairsWithoutTheFirstDoNotCountForADifference(Check check) {
        AffixWorks mill = new AffixWorks();
        int[] rows = rowsOf199Pairs(mill);
        int first = mill.unite(rows[0], Mills.word(mill, "1"));
        int second = mill.unite(rows[1], Mills.word(mill, "222222"));
        check.shown("200 pairs, and 6 of the second alone", mill, mill.meet(first, second, false),
                "2 [1] 0:1/1$0>1");
    }

    static void promise14_pairsWithoutTheSecondCountForADifference(Check check) {
        AffixWorks mill = new AffixWorks();
        int[] rows = rowsOf199Pairs(mill);
        int fits = mill.unite(rows[0], Mills.word(mill, "1"));
        int more = mill.unite(rows[0], Mills.word(mill, "11"));
        check.refusedUnchanged("199 pairs, and 2 of the first alone", Check.STATE, mill,
                () -> mill.meet(more, rows[1], false));
        check.shown("199 pairs, and 1 of the first alone", mill, mill.meet(fits, rows[1], false),
                "2 [1] 0:1/1$0>1");
    }

    static void promise14_statesOfAMeet_32AreTaken_33AreRefused(Check check) {
        AffixWorks mill = new AffixWorks();
        int five = Bounds.cycle(mill, Bounds.zeros(mill, 5));
        int six = Bounds.cycle(mill, Bounds.zeros(mill, 6));
        int one = Mills.word(mill, "1");
        int two = Mills.word(mill, "11");
        int first = mill.unite(five, one);
        int second = mill.unite(six, one);
        int firstMore = mill.unite(five, two);
        int secondMore = mill.unite(six, two);
        check.refusedUnchanged("33 states", Check.STATE, mill, () -> mill.meet(firstMore, secondMore, true));
        check.due("32 states", 32032, () -> mill.size(mill.meet(first, second, true)));
    }

    static void promise14_statesOfADifference_32AreTaken_33AreRefused(Check check) {
        AffixWorks mill = new AffixWorks();
        int five = Bounds.cycle(mill, Bounds.zeros(mill, 5));
        int six = Bounds.cycle(mill, Bounds.zeros(mill, 6));
        int first = mill.unite(five, Mills.word(mill, "1"));
        int more = mill.unite(five, Mills.word(mill, "11"));
        check.refusedUnchanged("33 states", Check.STATE, mill, () -> mill.meet(more, six, false));
        check.due("32 states", 32032, () -> mill.size(mill.meet(first, six, false)));
    }

    /** Makes two machines, numbers 15 and 16, whose meet has 156 + zeros arcs. */
    private static AffixWorks withTwoThatMeet(int zeros) {
        AffixWorks mill = new AffixWorks();
        int[] cycles = Bounds.cyclesWithout7(mill);
        int words = Bounds.wordsFrom7(mill, zeros);
        mill.unite(cycles[0], words);
        mill.unite(cycles[1], words);
        return mill;
    }

    static void promise14_arcsOfAMeet_160AreTaken_161AreRefused(Check check) {
        AffixWorks fits = withTwoThatMeet(4);
        AffixWorks more = withTwoThatMeet(5);
        check.refusedUnchanged("161 arcs", Check.STATE, more, () -> more.meet(15, 16, true));
        check.due("the number of the one of 160 arcs", 17, () -> fits.meet(15, 16, true));
        check.due("its size", 27160, () -> fits.size(17));
    }

    /** Behind 7 both machines go on, but to no word that is wanted. */
    static void promise14_pairThatLeadsToNoEndIsNoState33(Check check) {
        AffixWorks mill = new AffixWorks();
        int five = mill.unite(Bounds.cycle(mill, Bounds.zeros(mill, 5)), Mills.word(mill, "1"));
        int six = Bounds.cycle(mill, Bounds.zeros(mill, 6));
        int first = mill.unite(five, Mills.word(mill, "76"));
        int second = mill.unite(mill.unite(six, Mills.word(mill, "1")), Mills.word(mill, "75"));
        check.due("the meet", 32032, () -> mill.size(mill.meet(first, second, true)));
        int seven = mill.unite(six, Mills.word(mill, "76"));
        check.due("the difference", 32032, () -> mill.size(mill.meet(first, seven, false)));
    }

    static void promise14_arcsOfADifference_160AreTaken_161AreRefused(Check check) {
        AffixWorks mill = new AffixWorks();
        int[] cycles = Bounds.cyclesWithout7(mill);
        int first = mill.unite(cycles[0], Bounds.wordsFrom7(mill, 4));
        int more = mill.unite(cycles[0], Bounds.wordsFrom7(mill, 5));
        check.refusedUnchanged("161 arcs", Check.STATE, mill, () -> mill.meet(more, cycles[1], false));
        check.due("160 arcs", 27160, () -> mill.size(mill.meet(first, cycles[1], false)));
    }

    static void promise14_secondMayBeTheSame(Check check) {
        AffixWorks mill = new AffixWorks();
        int word = Mills.word(mill, "12");
        check.shown("the meet", mill, mill.meet(word, word, true), "3 [2] 0:1/1$0>1 1:2/2$0>2");
        check.shown("the difference", mill, mill.meet(word, word, false), "1 []");
    }

    static void promise14_emptyWordIsAWord(Check check) {
        AffixWorks mill = new AffixWorks();
        int empty = mill.word();
        int all = mill.repeat(mill.any());
        int one = Mills.word(mill, "1");
        check.shown("the meet with all", mill, mill.meet(empty, all, true), "1 [0]");
        check.shown("the difference from all", mill, mill.meet(empty, all, false), "1 []");
        check.shown("the meet with another", mill, mill.meet(empty, one, true), "1 []");
        check.shown("the difference from another", mill, mill.meet(empty, one, false), "1 [0]");
    }

    static void promise14_machinesThatRelateNothing(Check check) {
        AffixWorks mill = new AffixWorks();
        int nothing = Bounds.nothing(mill);
        int one = Mills.word(mill, "1");
        check.shown("a meet of two", mill, mill.meet(nothing, nothing, true), "1 []");
        check.shown("a difference of two", mill, mill.meet(nothing, nothing, false), "1 []");
        check.shown("a meet with it", mill, mill.meet(one, nothing, true), "1 []");
        check.shown("a difference from it", mill, mill.meet(one, nothing, false), "2 [1] 0:1/1$0>1");
        check.shown("its difference", mill, mill.meet(nothing, one, false), "1 []");
    }

    static void promise14_statesOf32EachAreTaken(Check check) {
        AffixWorks mill = new AffixWorks();
        int most = Bounds.states(mill, 32);
        check.due("the meet", 29028, () -> mill.size(mill.meet(most, most, true)));
        check.due("the difference", 1000, () -> mill.size(mill.meet(most, most, false)));
    }

    static void promise14_refusedCallChangesNothing(Check check) {
        AffixWorks mill = new AffixWorks();
        int unlike = mill.pair(1, 2, 0);
        int five = Bounds.cycle(mill, Bounds.zeros(mill, 5));
        int seven = Bounds.cycle(mill, Bounds.zeros(mill, 7));
        check.refusedUnchanged("not plain", Check.STATE, mill, () -> mill.meet(unlike, five, true));
        check.refusedUnchanged("35 states", Check.STATE, mill, () -> mill.meet(five, seven, true));
        check.refusedUnchanged("35 states of a difference", Check.STATE, mill,
                () -> mill.meet(five, seven, false));
        check.refusedUnchanged("no such machine", Check.INDEX, mill, () -> mill.meet(five, 24, true));
        check.due("the next number is free", seven + 1, () -> mill.any());
    }
}
