/** Promise 8, its boundaries: machines that exist, 32 states, 160 arcs, 24 machines. */
public final class Promise08UniteTest {
    public static void main(String[] args) {
        Cases.run(Promise08UniteTest.class);
    }

    static void promise08_noMachineIsRefused(Check check) {
        Bounds.noMachineIsRefused(check, (mill, machine) -> mill.unite(machine, machine));
    }

    static void promise08_firstOf3_0To2AreTaken_minus1And3AreRefused(Check check) {
        Bounds.machinesBesideAreRefused(check, (mill, machine) -> mill.unite(machine, 1));
    }

    static void promise08_secondOf3_0To2AreTaken_minus1And3AreRefused(Check check) {
        Bounds.machinesBesideAreRefused(check, (mill, machine) -> mill.unite(1, machine));
    }

    static void promise08_machines24AreTaken_25thIsRefused(Check check) {
        Bounds.machines24AreTaken25thRefused(check, mill -> mill.unite(22, 0));
    }

    static void promise08_noSuchMachineGoesAheadOf24Machines(Check check) {
        Bounds.indexGoesAheadOf24Machines(check, (mill, machine) -> mill.unite(machine, 0));
        Bounds.indexGoesAheadOf24Machines(check, (mill, machine) -> mill.unite(0, machine));
    }

    static void promise08_noSuchMachineGoesAheadOfTooManyStates(Check check) {
        AffixWorks mill = new AffixWorks();
        int most = Bounds.states(mill, 32);
        check.refusedUnchanged("too many states", Check.STATE, mill, () -> mill.unite(most, most));
        check.refusedUnchanged("no second", Check.INDEX, mill, () -> mill.unite(most, most + 1));
        check.refusedUnchanged("no first", Check.INDEX, mill, () -> mill.unite(-1, most));
    }

    static void promise08_states32AreTaken_33AreRefused(Check check) {
        AffixWorks mill = new AffixWorks();
        int some = Bounds.states(mill, 15);
        int more = Bounds.states(mill, 16);
        int most = Bounds.states(mill, 17);
        check.refusedUnchanged("33 states", Check.STATE, mill, () -> mill.unite(more, more));
        check.refusedUnchanged("33 states, otherwise", Check.STATE, mill, () -> mill.unite(some, most));
        check.due("32 states", 32031, () -> mill.size(mill.unite(some, more)));
        check.due("32 states, the other way", 32031, () -> mill.size(mill.unite(more, some)));
    }

    static void promise08_states30And1AreTaken_31And1AreRefused(Check check) {
        AffixWorks mill = new AffixWorks();
        int empty = Bounds.empty(mill);
        int fits = Bounds.states(mill, 30);
        int more = Bounds.states(mill, 31);
        check.refusedUnchanged("33 states", Check.STATE, mill, () -> mill.unite(more, empty));
        check.refusedUnchanged("33 states, the other way", Check.STATE, mill, () -> mill.unite(empty, more));
        check.due("32 states", 32031, () -> mill.size(mill.unite(empty, fits)));
    }

    static void promise08_arcs160AreTaken_161AreRefused(Check check) {
        AffixWorks mill = new AffixWorks();
        int[] anys = Bounds.anys(mill);
        int fits = Bounds.arcs73And(mill, anys, 5);
        int more = Bounds.arcs73And(mill, anys, 6);
        check.refusedUnchanged("161 arcs", Check.STATE, mill, () -> mill.unite(anys[10], more));
        check.refusedUnchanged("161 arcs, the other way", Check.STATE, mill, () -> mill.unite(more, anys[10]));
        int made = mill.unite(anys[10], fits);
        check.due("the number of the one of 160 arcs", more + 1, () -> made);
        check.due("its size", 28160, () -> mill.size(made));
    }

    static void promise08_statesThatAreTrimmedDoNotCount(Check check) {
        AffixWorks mill = new AffixWorks();
        int fits = Bounds.states(mill, 31);
        int most = Bounds.states(mill, 32);
        int nothing = Bounds.nothing(mill);
        check.due("31 states and nothing", 32031, () -> mill.size(mill.unite(fits, nothing)));
        check.due("nothing and 31 states", 32031, () -> mill.size(mill.unite(nothing, fits)));
        check.refusedUnchanged("32 states and nothing", Check.STATE, mill, () -> mill.unite(most, nothing));
    }

    static void promise08_arcsThatAreTrimmedDoNotCount(Check check) {
        AffixWorks mill = new AffixWorks();
        int[] anys = Bounds.anys(mill);
        int fits = mill.join(anys[10], Bounds.arcs73And(mill, anys, 5));
        int more = mill.join(anys[10], Bounds.arcs73And(mill, anys, 6));
        int nothing = Bounds.nothing(mill);
        check.refusedUnchanged("160 arcs and nothing", Check.STATE, mill, () -> mill.unite(more, nothing));
        check.due("159 arcs and nothing", 28160, () -> mill.size(mill.unite(fits, nothing)));
        check.due("nothing and 159 arcs", 28160, () -> mill.size(mill.unite(nothing, fits)));
    }

    static void promise08_secondMayBeTheSame(Check check) {
        AffixWorks mill = new AffixWorks();
        mill.pair(1, 2, 3);
        check.due("unite(0, 0)", 1, () -> mill.unite(0, 0));
        check.shown("it", mill, 1, "5 [3 4] 0:8/8$0>1 0:8/8$0>2 1:1/2$3>3 2:1/2$3>4");
        check.shown("the first", mill, 0, "2 [1] 0:1/2$3>1");
    }

    static void promise08_emptyWordsAreUnited(Check check) {
        AffixWorks mill = new AffixWorks();
        int empty = Bounds.empty(mill);
        check.shown("both", mill, mill.unite(empty, empty), "3 [1 2] 0:8/8$0>1 0:8/8$0>2");
    }

    static void promise08_machinesThatRelateNothingAreUnited(Check check) {
        AffixWorks mill = new AffixWorks();
        int nothing = Bounds.nothing(mill);
        int pair = mill.pair(1, 2, 3);
        check.shown("both", mill, mill.unite(nothing, nothing), "1 []");
        check.shown("the first", mill, mill.unite(nothing, pair), "3 [2] 0:8/8$0>1 1:1/2$3>2");
        check.shown("the second", mill, mill.unite(pair, nothing), "3 [2] 0:8/8$0>1 1:1/2$3>2");
    }

    static void promise08_refusedCallChangesNothing(Check check) {
        AffixWorks mill = new AffixWorks();
        int most = Bounds.states(mill, 32);
        check.refusedUnchanged("too many states", Check.STATE, mill, () -> mill.unite(most, 0));
        check.refusedUnchanged("no such machine", Check.INDEX, mill, () -> mill.unite(99, most));
        check.due("the next number is free", most + 1, () -> mill.unite(0, 0));
    }
}
