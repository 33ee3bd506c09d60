/** Promise 10, its boundaries: machines that exist, the largest ones, 24 machines. */
public final class Promise10TurnTest {
    public static void main(String[] args) {
        Cases.run(Promise10TurnTest.class);
    }

    static void promise10_noMachineIsRefused(Check check) {
        Bounds.noMachineIsRefused(check, (mill, machine) -> mill.turn(machine));
    }

    static void promise10_of3_0To2AreTaken_minus1And3AreRefused(Check check) {
        Bounds.machinesBesideAreRefused(check, (mill, machine) -> mill.turn(machine));
    }

    static void promise10_machines24AreTaken_25thIsRefused(Check check) {
        Bounds.machines24AreTaken25thRefused(check, mill -> mill.turn(22));
    }

    static void promise10_noSuchMachineGoesAheadOf24Machines(Check check) {
        Bounds.indexGoesAheadOf24Machines(check, (mill, machine) -> mill.turn(machine));
    }

    static void promise10_machineOf32StatesIsTaken(Check check) {
        AffixWorks mill = new AffixWorks();
        int most = Bounds.states(mill, 32);
        check.same("it", Mills.show(mill, mill.turn(most)), Mills.show(mill, most));
    }

    static void promise10_machineOf160ArcsIsTaken(Check check) {
        AffixWorks mill = new AffixWorks();
        int most = Bounds.arcs160(mill);
        check.same("it", Mills.show(mill, mill.turn(most)), Mills.show(mill, most));
    }

    static void promise10_emptyLettersAreTurned(Check check) {
        AffixWorks mill = new AffixWorks();
        check.shown("put", mill, mill.turn(mill.pair(8, 3, 100)), "2 [1] 0:3/8$100>1");
        check.shown("away", mill, mill.turn(mill.pair(3, 8, 100)), "2 [1] 0:8/3$100>1");
        check.shown("idle", mill, mill.turn(mill.pair(8, 8, 100)), "2 [1] 0:8/8$100>1");
    }

    static void promise10_machineThatRelatesNothingIsTurned(Check check) {
        AffixWorks mill = new AffixWorks();
        check.shown("it", mill, mill.turn(Bounds.nothing(mill)), "1 []");
    }

    static void promise10_emptyWordIsTurned(Check check) {
        AffixWorks mill = new AffixWorks();
        check.shown("it", mill, mill.turn(mill.word()), "1 [0]");
    }

    /** Parallel arcs change their order, and all of them stay. */
    static void promise10_arcsAreInTheirNewOrder(Check check) {
        AffixWorks mill = new AffixWorks();
        int free = mill.compose(mill.rule(1, 6, -1, -1, true), mill.rule(2, 0, -1, -1, true));
        check.shown("it", mill, mill.turn(free), "1 [0] 0:0/0$0>0 0:0/2$0>0 0:1/1$0>0 0:2/2$0>0"
                + " 0:3/3$0>0 0:4/4$0>0 0:5/5$0>0 0:6/1$0>0 0:6/6$0>0 0:7/7$0>0");
    }

    static void promise10_refusedCallChangesNothing(Check check) {
        AffixWorks mill = Bounds.withMachines(24);
        check.refusedUnchanged("a 25th", Check.STATE, mill, () -> mill.turn(0));
        check.refusedUnchanged("no such machine", Check.INDEX, mill, () -> mill.turn(24));
    }
}
