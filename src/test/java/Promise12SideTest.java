/** Promise 12, its boundaries: machines that exist, the largest ones, 24 machines. */
public final class Promise12SideTest {
    public static void main(String[] args) {
        Cases.run(Promise12SideTest.class);
    }

    static void promise12_noMachineIsRefused(Check check) {
        Bounds.noMachineIsRefused(check, (mill, machine) -> mill.side(machine, true));
        Bounds.noMachineIsRefused(check, (mill, machine) -> mill.side(machine, false));
    }

    static void promise12_of3_0To2AreTaken_minus1And3AreRefused(Check check) {
        Bounds.machinesBesideAreRefused(check, (mill, machine) -> mill.side(machine, true));
        Bounds.machinesBesideAreRefused(check, (mill, machine) -> mill.side(machine, false));
    }

    static void promise12_machines24AreTaken_25thIsRefused(Check check) {
        Bounds.machines24AreTaken25thRefused(check, mill -> mill.side(22, true));
        Bounds.machines24AreTaken25thRefused(check, mill -> mill.side(22, false));
    }

    static void promise12_noSuchMachineGoesAheadOf24Machines(Check check) {
        Bounds.indexGoesAheadOf24Machines(check, (mill, machine) -> mill.side(machine, true));
        Bounds.indexGoesAheadOf24Machines(check, (mill, machine) -> mill.side(machine, false));
    }

    static void promise12_machineOf32StatesIsTaken(Check check) {
        AffixWorks mill = new AffixWorks();
        int most = Bounds.states(mill, 32);
        check.same("upper", Mills.show(mill, mill.side(most, true)), Mills.show(mill, most));
        check.same("lower", Mills.show(mill, mill.side(most, false)), Mills.show(mill, most));
    }

    static void promise12_machineOf160ArcsIsTaken(Check check) {
        AffixWorks mill = new AffixWorks();
        int most = Bounds.arcs160(mill);
        check.same("upper", Mills.show(mill, mill.side(most, true)), Mills.show(mill, most));
        check.same("lower", Mills.show(mill, mill.side(most, false)), Mills.show(mill, most));
    }

    static void promise12_costsAreNone(Check check) {
        AffixWorks mill = new AffixWorks();
        int pair = mill.pair(1, 2, 100);
        check.shown("upper", mill, mill.side(pair, true), "2 [1] 0:1/1$0>1");
        check.shown("lower", mill, mill.side(pair, false), "2 [1] 0:2/2$0>1");
    }

    static void promise12_emptyLettersStayEmpty(Check check) {
        AffixWorks mill = new AffixWorks();
        int away = mill.pair(1, 8, 9);
        check.shown("upper", mill, mill.side(away, true), "2 [1] 0:1/1$0>1");
        check.shown("lower", mill, mill.side(away, false), "2 [1] 0:8/8$0>1");
    }

    static void promise12_arcsThatAreTheSameThenBecomeOne(Check check) {
        AffixWorks mill = new AffixWorks();
        int free = mill.rule(1, 2, -1, -1, true);
        check.due("arcs of both sides", 1009, () -> mill.size(free));
        check.due("arcs of the upper one", 1008, () -> mill.size(mill.side(free, true)));
        check.due("arcs of the lower one", 1008, () -> mill.size(mill.side(free, false)));
        int away = mill.rule(1, 8, 0, 2, true);
        check.due("arcs that lead to other states", 4026, () -> mill.size(away));
        check.due("they stay", 4026, () -> mill.size(mill.side(away, true)));
    }

    static void promise12_machineThatRelatesNothingHasSides(Check check) {
        AffixWorks mill = new AffixWorks();
        int nothing = Bounds.nothing(mill);
        check.shown("upper", mill, mill.side(nothing, true), "1 []");
        check.shown("lower", mill, mill.side(nothing, false), "1 []");
    }

    static void promise12_emptyWordHasSides(Check check) {
        AffixWorks mill = new AffixWorks();
        int empty = mill.word();
        check.shown("upper", mill, mill.side(empty, true), "1 [0]");
        check.shown("lower", mill, mill.side(empty, false), "1 [0]");
    }

    static void promise12_refusedCallChangesNothing(Check check) {
        AffixWorks mill = Bounds.withMachines(24);
        check.refusedUnchanged("a 25th", Check.STATE, mill, () -> mill.side(0, false));
        check.refusedUnchanged("no such machine", Check.INDEX, mill, () -> mill.side(24, false));
    }
}
