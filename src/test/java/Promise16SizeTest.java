/** Promise 16, its boundaries: machines that exist, the smallest and the largest ones. */
public final class Promise16SizeTest {
    public static void main(String[] args) {
        Cases.run(Promise16SizeTest.class);
    }

    static void promise16_noMachineIsRefused(Check check) {
        Bounds.noMachineIsRefused(check, (mill, machine) -> mill.size(machine));
    }

    static void promise16_of3_0To2AreTaken_minus1And3AreRefused(Check check) {
        Bounds.machinesBesideAreRefused(check, (mill, machine) -> mill.size(machine));
    }

    static void promise16_of24_23IsTaken_24IsRefused(Check check) {
        Bounds.machine23IsTaken24Refused(check, (mill, machine) -> mill.size(machine));
    }

    static void promise16_oneStateAndNoArcIs1000(Check check) {
        AffixWorks mill = new AffixWorks();
        check.due("the empty word", 1000, () -> mill.size(mill.word()));
        check.due("nothing", 1000, () -> mill.size(Bounds.nothing(mill)));
    }

    static void promise16_oneStateAndArcs(Check check) {
        AffixWorks mill = new AffixWorks();
        int loop = Bounds.cycle(mill, Bounds.zeros(mill, 1));
        check.due("one arc", 1001, () -> mill.size(loop));
        check.due("8 arcs", 1008, () -> mill.size(mill.rule(1, 2, -1, -1, false)));
        check.due("9 arcs", 1009, () -> mill.size(mill.rule(1, 2, -1, -1, true)));
    }

    static void promise16_states32And160Arcs(Check check) {
        AffixWorks mill = new AffixWorks();
        check.due("32 states", 32031, () -> mill.size(Bounds.states(mill, 32)));
        check.due("160 arcs", 28160, () -> mill.size(Bounds.arcs160(mill)));
    }

    static void promise16_bothAtTheirMost(Check check) {
        AffixWorks mill = new AffixWorks();
        int most = Bounds.states32Arcs160(mill);
        check.due("32 states, 160 arcs", 32160, () -> mill.size(most));
    }
}
