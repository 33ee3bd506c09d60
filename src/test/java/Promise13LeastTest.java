/** Promise 13, its boundaries: plain machines, 200 sets, 32 states, 160 arcs, 24 machines. */
public final class Promise13LeastTest {
    public static void main(String[] args) {
        Cases.run(Promise13LeastTest.class);
    }

    static void promise13_noMachineIsRefused(Check check) {
        Bounds.noMachineIsRefused(check, (mill, machine) -> mill.least(machine));
    }

    static void promise13_of3_0To2AreTaken_minus1And3AreRefused(Check check) {
        Bounds.machinesBesideAreRefused(check, (mill, machine) -> mill.least(machine));
    }

    static void promise13_machines24AreTaken_25thIsRefused(Check check) {
        Bounds.machines24AreTaken25thRefused(check, mill -> mill.least(22));
    }

    static void promise13_noSuchMachineGoesAheadOf24Machines(Check check) {
        Bounds.indexGoesAheadOf24Machines(check, (mill, machine) -> mill.least(machine));
    }

    static void promise13_arcOfCost0IsPlain_ofCost1IsRefused(Check check) {
        AffixWorks mill = new AffixWorks();
        int free = mill.pair(3, 3, 0);
        int dear = mill.pair(3, 3, 1);
        check.refusedUnchanged("of cost 1", Check.STATE, mill, () -> mill.least(dear));
        check.shown("of cost 0", mill, mill.least(free), "2 [1] 0:3/3$0>1");
    }

    static void promise13_emptyArcOfCost0IsPlain_ofCost1IsRefused(Check check) {
        AffixWorks mill = new AffixWorks();
        int idle = mill.pair(8, 8, 0);
        int dear = mill.pair(8, 8, 1);
        check.refusedUnchanged("of cost 1", Check.STATE, mill, () -> mill.least(dear));
        check.shown("of cost 0", mill, mill.least(idle), "1 [0]");
    }

    static void promise13_lettersThatDifferAreRefused(Check check) {
        AffixWorks mill = new AffixWorks();
        int[] unlike = {mill.pair(3, 4, 0), mill.pair(3, 8, 0), mill.pair(8, 3, 0)};
        for (int machine : unlike) {
            check.refusedUnchanged("machine " + machine, Check.STATE, mill, () -> mill.least(machine));
        }
    }

    static void promise13_oneArcOf160ThatIsNotPlainIsRefused(Check check) {
        AffixWorks mill = new AffixWorks();
        int[] anys = Bounds.anys(mill);
        int rows = mill.join(anys[10], Bounds.arcs73And(mill, anys, 4));
        int plain = mill.join(rows, mill.pair(0, 0, 0));
        int unlike = mill.join(rows, mill.pair(0, 0, 1));
        check.due("arcs", 28160, () -> mill.size(unlike));
        check.refusedUnchanged("the last arc costs 1", Check.STATE, mill, () -> mill.least(unlike));
        check.due("it costs nothing", 25157, () -> mill.size(mill.least(plain)));
    }

    static void promise13_noSuchMachineGoesAheadOfOneThatIsNotPlain(Check check) {
        AffixWorks mill = new AffixWorks();
        mill.pair(1, 2, 3);
        check.refusedUnchanged("machine 0", Check.STATE, mill, () -> mill.least(0));
        check.refusedUnchanged("machine 1", Check.INDEX, mill, () -> mill.least(1));
        check.refusedUnchanged("machine -1", Check.INDEX, mill, () -> mill.least(-1));
    }

    /**
     * Rows of 0, of any count, but looked at by how they go into 2, 9 and 11: 198 sets, and one
     * for no letter. A word of 1s has one set more for each letter.
     */
    private static int rowsOf199Sets(AffixWorks mill) {
        int one = Bounds.zeros(mill, 1);
        int eight = Bounds.zeros(mill, 8);
        int two = Bounds.cycle(mill, Bounds.zeros(mill, 2));
        int nine = Bounds.cycle(mill, mill.join(eight, one));
        int eleven = Bounds.cycle(mill, mill.join(eight, Bounds.zeros(mill, 3)));
        return mill.unite(mill.unite(two, nine), mill.unite(eleven, Bounds.cycle(mill, one)));
    }

    static void promise13_sets200AreTaken_201AreRefused(Check check) {
        AffixWorks mill = new AffixWorks();
        int rows = rowsOf199Sets(mill);
        int fits = mill.unite(rows, Mills.word(mill, "1"));
        int more = mill.unite(rows, Mills.word(mill, "11"));
        check.refusedUnchanged("201 sets", Check.STATE, mill, () -> mill.least(more));
        check.shown("200 sets", mill, mill.least(fits), "3 [0 1 2] 0:0/0$0>1 0:1/1$0>2 1:0/0$0>1");
    }

    /** From each of the 200 sets letters lead to the empty one. */
    static void promise13_emptySetIsNoSet201(Check check) {
        AffixWorks mill = new AffixWorks();
        int rows = rowsOf199Sets(mill);
        int seven = mill.unite(rows, Mills.word(mill, "7"));
        check.shown("200 sets", mill, mill.least(seven), "3 [0 1 2] 0:0/0$0>1 0:7/7$0>2 1:0/0$0>1");
    }

    /** Behind 7s the machine is in its first set again. */
    static void promise13_firstSetThatComesAgainCountsOnce(Check check) {
        AffixWorks mill = new AffixWorks();
        int rows = mill.unite(rowsOf199Sets(mill), Mills.word(mill, "1"));
        int fits = mill.join(Bounds.cycle(mill, Mills.word(mill, "7")), rows);
        check.shown("200 sets", mill, mill.least(fits),
                "3 [0 1 2] 0:0/0$0>1 0:1/1$0>2 0:7/7$0>0 1:0/0$0>1");
    }

    /** It is looked at alone, whatever machines were told apart ahead of it. */
    static void promise13_setsOfMachinesThatWereToldApartDoNotCount(Check check) {
        AffixWorks mill = new AffixWorks();
        int rows = rowsOf199Sets(mill);
        int fits = mill.unite(rows, Mills.word(mill, "1"));
        check.due("0 apart from eight 0s", 0, () -> mill.apart(0, 1, 0));
        check.due("eight 0s apart from 0", 8, () -> mill.apart(1, 0, 1));
        check.due("0 apart from eight 0s, again", 8, () -> mill.apart(0, 1, 1));
        check.shown("200 sets", mill, mill.least(fits), "3 [0 1 2] 0:0/0$0>1 0:1/1$0>2 1:0/0$0>1");
    }

    /** 199 sets or more are looked at, although the least machine has few states. */
    static void promise13_setsCountThoughFewStatesAreLeft(Check check) {
        AffixWorks mill = new AffixWorks();
        int rows = rowsOf199Sets(mill);
        int loop = Bounds.cycle(mill, Bounds.zeros(mill, 1));
        check.shown("199 sets", mill, mill.least(rows), "1 [0] 0:0/0$0>0");
        int fits = mill.unite(rows, mill.join(loop, Mills.word(mill, "1")));
        AffixWorks other = new AffixWorks();
        int otherRows = rowsOf199Sets(other);
        int otherLoop = Bounds.cycle(other, Bounds.zeros(other, 1));
        int more = other.unite(otherRows, other.join(otherLoop, Mills.word(other, "11")));
        check.due("machines", 24, () -> Mills.count(mill));
        check.due("machines of the other", 23, () -> Mills.count(other));
        check.due("200 sets can be told apart", -1, () -> mill.apart(fits, fits, 0));
        check.refusedUnchanged("201 sets", Check.STATE, other, () -> other.least(more));
    }

    static void promise13_states32AreTaken_33AreRefused(Check check) {
        AffixWorks mill = new AffixWorks();
        int cycles = mill.unite(Bounds.cycle(mill, Bounds.zeros(mill, 5)),
                Bounds.cycle(mill, Bounds.zeros(mill, 6)));
        int fits = mill.unite(cycles, Mills.word(mill, "1"));
        int more = mill.unite(cycles, Mills.word(mill, "11"));
        check.refusedUnchanged("33 states", Check.STATE, mill, () -> mill.least(more));
        check.due("32 states", 32032, () -> mill.size(mill.least(fits)));
    }

    /** Taken together the cycles have 20 states of 7 arcs, and the first one is by itself. */
    static void promise13_arcs160AreTaken_161AreRefused(Check check) {
        AffixWorks mill = new AffixWorks();
        int[] cycles = Bounds.cyclesWithout7(mill);
        int both = mill.unite(cycles[0], cycles[1]);
        int fits = mill.unite(both, Bounds.wordsFrom7(mill, 4));
        int more = mill.unite(both, Bounds.wordsFrom7(mill, 5));
        check.refusedUnchanged("161 arcs", Check.STATE, mill, () -> mill.least(more));
        check.due("160 arcs", 27160, () -> mill.size(mill.least(fits)));
    }

    static void promise13_machineThatRelatesNothingIsItsOwnLeast(Check check) {
        AffixWorks mill = new AffixWorks();
        check.shown("it", mill, mill.least(Bounds.nothing(mill)), "1 []");
    }

    static void promise13_emptyWordIsItsOwnLeast(Check check) {
        AffixWorks mill = new AffixWorks();
        int empty = mill.word();
        check.shown("it", mill, mill.least(empty), "1 [0]");
        check.shown("joined", mill, mill.least(mill.join(empty, empty)), "1 [0]");
        check.shown("united", mill, mill.least(mill.unite(empty, empty)), "1 [0]");
    }

    static void promise13_emptyArcsAreGone(Check check) {
        AffixWorks mill = new AffixWorks();
        int most = Bounds.states(mill, 32);
        check.due("32 states with 3 empty arcs", 29028, () -> mill.size(mill.least(most)));
    }

    static void promise13_leastOfTheLeastIsTheSame(Check check) {
        AffixWorks mill = new AffixWorks();
        int least = Bounds.cyclesAndOnes(mill, 1);
        check.same("of 32 states", Mills.show(mill, mill.least(least)), Mills.show(mill, least));
    }

    static void promise13_refusedCallChangesNothing(Check check) {
        AffixWorks mill = new AffixWorks();
        int unlike = mill.pair(1, 2, 0);
        int cycles = mill.unite(Bounds.cycle(mill, Bounds.zeros(mill, 5)),
                Bounds.cycle(mill, Bounds.zeros(mill, 7)));
        check.refusedUnchanged("not plain", Check.STATE, mill, () -> mill.least(unlike));
        check.refusedUnchanged("35 states", Check.STATE, mill, () -> mill.least(cycles));
        check.refusedUnchanged("no such machine", Check.INDEX, mill, () -> mill.least(-1));
        check.due("the next number is free", cycles + 1, () -> mill.any());
    }
}
