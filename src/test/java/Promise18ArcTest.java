/** Promise 18, its boundaries: machines, arcs and things that exist, and what goes first. */
public final class Promise18ArcTest {
    public static void main(String[] args) {
        Cases.run(Promise18ArcTest.class);
    }

    static void promise18_noMachineIsRefused(Check check) {
        Bounds.noMachineIsRefused(check, (mill, machine) -> mill.arc(machine, 0, 0));
    }

    static void promise18_of3_0To2AreTaken_minus1And3AreRefused(Check check) {
        Bounds.machinesBesideAreRefused(check, (mill, machine) -> mill.arc(machine, 0, 0));
    }

    static void promise18_of24_23IsTaken_24IsRefused(Check check) {
        Bounds.machine23IsTaken24Refused(check, (mill, machine) -> mill.arc(machine, 0, 0));
    }

    static void promise18_ofOneArc_0IsTaken_minus1And1AreRefused(Check check) {
        AffixWorks mill = new AffixWorks();
        mill.pair(1, 2, 3);
        check.due("arc 0", 1, () -> mill.arc(0, 0, 1));
        check.refusedUnchanged("arc -1", Check.INDEX, mill, () -> mill.arc(0, -1, 1));
        check.refusedUnchanged("arc 1", Check.INDEX, mill, () -> mill.arc(0, 1, 1));
    }

    static void promise18_ofNoArcs_0IsRefused(Check check) {
        AffixWorks mill = new AffixWorks();
        int empty = mill.word();
        int nothing = Bounds.nothing(mill);
        for (int machine : new int[] {empty, nothing}) {
            for (int what = 0; what < 5; what++) {
                int of = what;
                check.refusedUnchanged("arc 0", Check.INDEX, mill, () -> mill.arc(machine, 0, of));
            }
            check.refusedUnchanged("arc -1", Check.INDEX, mill, () -> mill.arc(machine, -1, 0));
        }
    }

    static void promise18_of160Arcs_159IsTaken_160IsRefused(Check check) {
        AffixWorks mill = new AffixWorks();
        int most = Bounds.states32Arcs160(mill);
        check.due("from arc 0", 0, () -> mill.arc(most, 0, 0));
        check.due("from arc 159", 31, () -> mill.arc(most, 159, 0));
        check.due("upper of arc 159", 4, () -> mill.arc(most, 159, 1));
        check.due("lower of arc 159", 4, () -> mill.arc(most, 159, 2));
        check.due("cost of arc 159", 0, () -> mill.arc(most, 159, 3));
        check.refusedUnchanged("arc 160", Check.INDEX, mill, () -> mill.arc(most, 160, 0));
        check.refusedUnchanged("arc -1", Check.INDEX, mill, () -> mill.arc(most, -1, 0));
    }

    static void promise18_what0IsTaken_minus1IsRefused(Check check) {
        AffixWorks mill = new AffixWorks();
        mill.join(mill.pair(5, 6, 100), mill.pair(7, 8, 99));
        check.refusedUnchanged("what -1", Check.ARGUMENT, mill, () -> mill.arc(2, 2, -1));
        check.due("what 0", 2, () -> mill.arc(2, 2, 0));
    }

    static void promise18_what4IsTaken_5IsRefused(Check check) {
        AffixWorks mill = new AffixWorks();
        mill.join(mill.pair(5, 6, 100), mill.pair(7, 8, 99));
        check.refusedUnchanged("what 5", Check.ARGUMENT, mill, () -> mill.arc(2, 2, 5));
        check.due("what 4", 3, () -> mill.arc(2, 2, 4));
    }

    static void promise18_what0To4AreWhatTheyAre(Check check) {
        AffixWorks mill = new AffixWorks();
        mill.join(mill.pair(5, 6, 100), mill.pair(7, 8, 99));
        int[][] due = {{0, 5, 6, 100, 1}, {1, 8, 8, 0, 2}, {2, 7, 8, 99, 3}};
        for (int arc = 0; arc < 3; arc++) {
            for (int what = 0; what < 5; what++) {
                int at = arc;
                int of = what;
                check.due("arc " + at + ", what " + of, due[at][of], () -> mill.arc(2, at, of));
            }
        }
    }

    static void promise18_costIs1000000AtMost(Check check) {
        AffixWorks mill = new AffixWorks();
        int dearest = Bounds.dearest(mill);
        check.due("its cost", 1000000, () -> mill.arc(dearest, 0, 3));
    }

    static void promise18_whatFarAwayIsRefused(Check check) {
        AffixWorks mill = new AffixWorks();
        mill.pair(1, 2, 3);
        for (int what : Bounds.FAR) {
            check.refusedUnchanged("what " + what, Check.ARGUMENT, mill, () -> mill.arc(0, 0, what));
        }
    }

    static void promise18_arcsFarAwayAreRefused(Check check) {
        AffixWorks mill = new AffixWorks();
        mill.pair(1, 2, 3);
        for (int arc : Bounds.FAR) {
            check.refusedUnchanged("arc " + arc, Check.INDEX, mill, () -> mill.arc(0, arc, 0));
        }
    }

    static void promise18_noSuchMachineGoesAheadOfWhat(Check check) {
        AffixWorks mill = new AffixWorks();
        mill.pair(1, 2, 3);
        check.refusedUnchanged("machine 1, what 5", Check.INDEX, mill, () -> mill.arc(1, 0, 5));
        check.refusedUnchanged("machine -1, what -1", Check.INDEX, mill, () -> mill.arc(-1, 0, -1));
    }

    static void promise18_noSuchArcGoesAheadOfWhat(Check check) {
        AffixWorks mill = new AffixWorks();
        mill.pair(1, 2, 3);
        check.refusedUnchanged("arc 1, what 5", Check.INDEX, mill, () -> mill.arc(0, 1, 5));
        check.refusedUnchanged("arc -1, what -1", Check.INDEX, mill, () -> mill.arc(0, -1, -1));
        check.refusedUnchanged("arc 0, what 5", Check.ARGUMENT, mill, () -> mill.arc(0, 0, 5));
    }
}
