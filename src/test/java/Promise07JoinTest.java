/** Promise 7, its boundaries: machines that exist, 32 states, 160 arcs, 24 machines. */
public final class Promise07JoinTest {
    public static void main(String[] args) {
        Cases.run(Promise07JoinTest.class);
    }

    static void promise07_noMachineIsRefused(Check check) {
        Bounds.noMachineIsRefused(check, (mill, machine) -> mill.join(machine, machine));
    }

    static void promise07_firstOf3_0To2AreTaken_minus1And3AreRefused(Check check) {
        Bounds.machinesBesideAreRefused(check, (mill, machine) -> mill.join(machine, 1));
    }

    static void promise07_secondOf3_0To2AreTaken_minus1And3AreRefused(Check check) {
        Bounds.machinesBesideAreRefused(check, (mill, machine) -> mill.join(1, machine));
    }

    static void promise07_machines24AreTaken_25thIsRefused(Check check) {
        Bounds.machines24AreTaken25thRefused(check, mill -> mill.join(0, 22));
    }

    static void promise07_noSuchMachineGoesAheadOf24Machines(Check check) {
        Bounds.indexGoesAheadOf24Machines(check, (mill, machine) -> mill.join(machine, 0));
        Bounds.indexGoesAheadOf24Machines(check, (mill, machine) -> mill.join(0, machine));
    }

    static void promise07_noSuchMachineGoesAheadOfTooManyStates(Check check) {
        AffixWorks mill = new AffixWorks();
        int most = Bounds.states(mill, 32);
        check.refusedUnchanged("too many states", Check.STATE, mill, () -> mill.join(most, most));
        check.refusedUnchanged("no second", Check.INDEX, mill, () -> mill.join(most, most + 1));
        check.refusedUnchanged("no first", Check.INDEX, mill, () -> mill.join(-1, most));
    }

    static void promise07_states32AreTaken_33AreRefused(Check check) {
        AffixWorks mill = new AffixWorks();
        int some = Bounds.states(mill, 16);
        int more = Bounds.states(mill, 17);
        check.refusedUnchanged("33 states", Check.STATE, mill, () -> mill.join(some, more));
        check.refusedUnchanged("33 states, the other way", Check.STATE, mill, () -> mill.join(more, some));
        int made = mill.join(some, some);
        check.due("the number of the one of 32 states", more + 1, () -> made);
        check.due("its size", 32031, () -> mill.size(made));
    }

    static void promise07_states31And1AreTaken_32And1AreRefused(Check check) {
        AffixWorks mill = new AffixWorks();
        int empty = Bounds.empty(mill);
        int nearly = Bounds.states(mill, 31);
        int most = Bounds.states(mill, 32);
        check.refusedUnchanged("33 states", Check.STATE, mill, () -> mill.join(most, empty));
        check.refusedUnchanged("33 states, the other way", Check.STATE, mill, () -> mill.join(empty, most));
        check.due("32 states", 32031, () -> mill.size(mill.join(nearly, empty)));
        check.due("32 states, the other way", 32031, () -> mill.size(mill.join(empty, nearly)));
    }

    static void promise07_arcs160AreTaken_161AreRefused(Check check) {
        AffixWorks mill = new AffixWorks();
        int[] anys = Bounds.anys(mill);
        int fits = Bounds.arcs73And(mill, anys, 6);
        int more = Bounds.arcs73And(mill, anys, 7);
        check.refusedUnchanged("161 arcs", Check.STATE, mill, () -> mill.join(anys[10], more));
        check.refusedUnchanged("161 arcs, the other way", Check.STATE, mill, () -> mill.join(more, anys[10]));
        int made = mill.join(anys[10], fits);
        check.due("the number of the one of 160 arcs", more + 1, () -> made);
        check.due("its size", 28160, () -> mill.size(made));
        check.due("where its last arc leads", 27, () -> mill.arc(made, 159, 4));
    }

    static void promise07_statesThatAreTrimmedDoNotCount(Check check) {
        AffixWorks mill = new AffixWorks();
        int most = Bounds.states(mill, 32);
        int nothing = Bounds.nothing(mill);
        check.shown("32 states and nothing", mill, mill.join(most, nothing), "1 []");
        check.shown("nothing and 32 states", mill, mill.join(nothing, most), "1 []");
    }

    static void promise07_arcsThatAreTrimmedDoNotCount(Check check) {
        AffixWorks mill = new AffixWorks();
        int most = Bounds.arcs160(mill);
        int nothing = Bounds.nothing(mill);
        check.shown("160 arcs and nothing", mill, mill.join(most, nothing), "1 []");
        check.shown("nothing and 160 arcs", mill, mill.join(nothing, most), "1 []");
    }

    static void promise07_secondMayBeTheSame(Check check) {
        AffixWorks mill = new AffixWorks();
        mill.pair(1, 2, 3);
        check.due("join(0, 0)", 1, () -> mill.join(0, 0));
        check.shown("it", mill, 1, "4 [3] 0:1/2$3>1 1:8/8$0>2 2:1/2$3>3");
        check.shown("the first", mill, 0, "2 [1] 0:1/2$3>1");
    }

    static void promise07_emptyWordsAreJoined(Check check) {
        AffixWorks mill = new AffixWorks();
        int empty = Bounds.empty(mill);
        int pair = mill.pair(1, 2, 3);
        check.shown("both empty", mill, mill.join(empty, empty), "2 [1] 0:8/8$0>1");
        check.shown("the first empty", mill, mill.join(empty, pair), "3 [2] 0:8/8$0>1 1:1/2$3>2");
        check.shown("the second empty", mill, mill.join(pair, empty), "3 [2] 0:1/2$3>1 1:8/8$0>2");
    }

    static void promise07_machinesThatRelateNothingAreJoined(Check check) {
        AffixWorks mill = new AffixWorks();
        int nothing = Bounds.nothing(mill);
        check.shown("both", mill, mill.join(nothing, nothing), "1 []");
    }

    static void promise07_eachEndOfTheFirstLeadsOn(Check check) {
        AffixWorks mill = new AffixWorks();
        int both = mill.unite(mill.pair(1, 1, 0), mill.pair(2, 2, 0));
        check.shown("two ends", mill, mill.join(both, mill.pair(3, 3, 0)),
                "7 [6] 0:8/8$0>1 0:8/8$0>2 1:1/1$0>3 2:2/2$0>4 3:8/8$0>5 4:8/8$0>5 5:3/3$0>6");
    }

    static void promise07_endsAreThoseOfTheSecondAlone(Check check) {
        AffixWorks mill = new AffixWorks();
        int both = mill.unite(mill.pair(1, 1, 0), Bounds.empty(mill));
        check.shown("two ends", mill, mill.join(mill.pair(3, 3, 0), both),
                "6 [4 5] 0:3/3$0>1 1:8/8$0>2 2:8/8$0>3 2:8/8$0>4 3:1/1$0>5");
    }

    static void promise07_refusedCallChangesNothing(Check check) {
        AffixWorks mill = new AffixWorks();
        int most = Bounds.states(mill, 32);
        mill.learn(2);
        check.refusedUnchanged("too many states", Check.STATE, mill, () -> mill.join(most, 0));
        check.refusedUnchanged("no such machine", Check.INDEX, mill, () -> mill.join(most, 99));
        check.due("the next number is free", most + 1, () -> mill.join(0, 0));
        check.due("the next lesson too", 2, () -> mill.learn(2));
    }
}
