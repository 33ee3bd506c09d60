/** Promise 4, its boundaries: letters 0 to 8, costs 0 to 100, 24 machines. */
public final class Promise04PairTest {
    public static void main(String[] args) {
        Cases.run(Promise04PairTest.class);
    }

    static void promise04_upper0IsTaken_minus1IsRefused(Check check) {
        AffixWorks mill = new AffixWorks();
        check.refusedUnchanged("pair(-1, 1, 1)", Check.ARGUMENT, mill, () -> mill.pair(-1, 1, 1));
        check.due("pair(0, 1, 1)", 0, () -> mill.pair(0, 1, 1));
        check.shown("it", mill, 0, "2 [1] 0:0/1$1>1");
    }

    static void promise04_upper8IsTaken_9IsRefused(Check check) {
        AffixWorks mill = new AffixWorks();
        check.refusedUnchanged("pair(9, 1, 1)", Check.ARGUMENT, mill, () -> mill.pair(9, 1, 1));
        check.due("pair(8, 1, 1)", 0, () -> mill.pair(8, 1, 1));
        check.due("pair(7, 1, 1)", 1, () -> mill.pair(7, 1, 1));
        check.shown("the first", mill, 0, "2 [1] 0:8/1$1>1");
        check.shown("the second", mill, 1, "2 [1] 0:7/1$1>1");
    }

    static void promise04_lower0IsTaken_minus1IsRefused(Check check) {
        AffixWorks mill = new AffixWorks();
        check.refusedUnchanged("pair(1, -1, 1)", Check.ARGUMENT, mill, () -> mill.pair(1, -1, 1));
        check.due("pair(1, 0, 1)", 0, () -> mill.pair(1, 0, 1));
        check.shown("it", mill, 0, "2 [1] 0:1/0$1>1");
    }

    static void promise04_lower8IsTaken_9IsRefused(Check check) {
        AffixWorks mill = new AffixWorks();
        check.refusedUnchanged("pair(1, 9, 1)", Check.ARGUMENT, mill, () -> mill.pair(1, 9, 1));
        check.due("pair(1, 8, 1)", 0, () -> mill.pair(1, 8, 1));
        check.due("pair(1, 7, 1)", 1, () -> mill.pair(1, 7, 1));
        check.shown("the first", mill, 0, "2 [1] 0:1/8$1>1");
        check.shown("the second", mill, 1, "2 [1] 0:1/7$1>1");
    }

    static void promise04_cost0IsTaken_minus1IsRefused(Check check) {
        AffixWorks mill = new AffixWorks();
        check.refusedUnchanged("pair(1, 2, -1)", Check.ARGUMENT, mill, () -> mill.pair(1, 2, -1));
        check.due("pair(1, 2, 0)", 0, () -> mill.pair(1, 2, 0));
        check.shown("it", mill, 0, "2 [1] 0:1/2$0>1");
    }

    static void promise04_cost100IsTaken_101IsRefused(Check check) {
        AffixWorks mill = new AffixWorks();
        check.refusedUnchanged("pair(1, 2, 101)", Check.ARGUMENT, mill, () -> mill.pair(1, 2, 101));
        check.due("pair(1, 2, 100)", 0, () -> mill.pair(1, 2, 100));
        check.shown("it", mill, 0, "2 [1] 0:1/2$100>1");
    }

    static void promise04_argumentsFarAwayAreRefused(Check check) {
        AffixWorks mill = new AffixWorks();
        for (int far : new int[] {Integer.MIN_VALUE, Integer.MAX_VALUE, -9, 1000000}) {
            check.refusedUnchanged("upper " + far, Check.ARGUMENT, mill, () -> mill.pair(far, 0, 0));
            check.refusedUnchanged("lower " + far, Check.ARGUMENT, mill, () -> mill.pair(0, far, 0));
            check.refusedUnchanged("cost " + far, Check.ARGUMENT, mill, () -> mill.pair(0, 0, far));
        }
        check.due("the first that is made", 0, () -> mill.pair(0, 0, 0));
    }

    static void promise04_bothLettersMayBeEmpty(Check check) {
        AffixWorks mill = new AffixWorks();
        check.due("pair(8, 8, 0)", 0, () -> mill.pair(8, 8, 0));
        check.due("pair(8, 8, 100)", 1, () -> mill.pair(8, 8, 100));
        check.shown("the first", mill, 0, "2 [1] 0:8/8$0>1");
        check.shown("the second", mill, 1, "2 [1] 0:8/8$100>1");
    }

    static void promise04_machines24AreTaken_25thIsRefused(Check check) {
        Bounds.machines24AreTaken25thRefused(check, mill -> mill.pair(1, 2, 3));
    }

    static void promise04_outOfRangeGoesAheadOf24Machines(Check check) {
        AffixWorks mill = Bounds.withMachines(24);
        check.refusedUnchanged("upper 9", Check.ARGUMENT, mill, () -> mill.pair(9, 0, 0));
        check.refusedUnchanged("lower -1", Check.ARGUMENT, mill, () -> mill.pair(0, -1, 0));
        check.refusedUnchanged("cost 101", Check.ARGUMENT, mill, () -> mill.pair(0, 0, 101));
        check.refusedUnchanged("nothing wrong", Check.STATE, mill, () -> mill.pair(0, 0, 100));
    }

    static void promise04_refusedCallChangesNothing(Check check) {
        AffixWorks mill = Bounds.withMachines(23);
        check.refusedUnchanged("cost 101", Check.ARGUMENT, mill, () -> mill.pair(0, 0, 101));
        check.due("the next number is free", 23, () -> mill.pair(0, 0, 0));
        check.refusedUnchanged("a 25th", Check.STATE, mill, () -> mill.pair(5, 5, 5));
        check.shown("the 24th is as it was", mill, 23, "2 [1] 0:0/0$0>1");
    }
}
