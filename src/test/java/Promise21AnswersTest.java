/** Promise 21, its boundaries: 0 to 20 answers, 20 also where there are more. */
public final class Promise21AnswersTest {
    private static final boolean DOWN = false;
    private static final boolean UP = true;

    public static void main(String[] args) {
        Cases.run(Promise21AnswersTest.class);
    }

    static void promise21_noMachineIsRefused(Check check) {
        Bounds.noMachineIsRefused(check, (mill, machine) -> mill.answers(machine, DOWN));
    }

    static void promise21_of3_0To2AreTaken_minus1And3AreRefused(Check check) {
        Bounds.machinesBesideAreRefused(check, (mill, machine) -> mill.answers(machine, DOWN));
        Bounds.machinesBesideAreRefused(check, (mill, machine) -> mill.answers(machine, UP));
    }

    static void promise21_of24_23IsTaken_24IsRefused(Check check) {
        Bounds.machine23IsTaken24Refused(check, (mill, machine) -> mill.answers(machine, UP));
    }

    static void promise21_noneAre0_oneIs1(Check check) {
        AffixWorks mill = new AffixWorks();
        int pair = mill.pair(1, 2, 3);
        check.due("down for no letter", 0, () -> mill.answers(pair, DOWN));
        mill.type(1);
        check.due("down for 1", 1, () -> mill.answers(pair, DOWN));
        check.due("up for 1", 0, () -> mill.answers(pair, UP));
        mill.type(1);
        check.due("down for 11", 0, () -> mill.answers(pair, DOWN));
    }

    static void promise21_emptyWordIsOneAnswer(Check check) {
        AffixWorks mill = new AffixWorks();
        mill.word();
        check.due("down", 1, () -> mill.answers(0, DOWN));
        check.due("up", 1, () -> mill.answers(0, UP));
    }

    static void promise21_answers19Are19_20Are20_21Are20(Check check) {
        int[] due = {16, 17, 18, 19, 20, 20};
        for (int more = 0; more < due.length; more++) {
            AffixWorks mill = new AffixWorks();
            int some = Bounds.answers16And(mill, more);
            check.due("of " + (16 + more), due[more], () -> mill.answers(some, DOWN));
            check.due("of " + due[more] + " turned", due[more], () -> mill.answers(mill.turn(some), UP));
        }
    }

    static void promise21_answers256Are20(Check check) {
        AffixWorks mill = Mills.typed("00000000");
        mill.rule(0, 1, -1, -1, true);
        check.due("down", 20, () -> mill.answers(0, DOWN));
        check.due("up", 1, () -> mill.answers(0, UP));
    }

    static void promise21_answersOfAllCostsCount(Check check) {
        AffixWorks mill = new AffixWorks();
        int words = mill.unite(mill.pair(1, 2, 100), mill.unite(mill.pair(1, 4, 0), mill.pair(3, 4, 50)));
        mill.type(1);
        check.due("down", 2, () -> mill.answers(words, DOWN));
        Mills.retype(mill, "4");
        check.due("up", 2, () -> mill.answers(words, UP));
    }

    static void promise21_waysThatTellTheSameAreOneAnswer(Check check) {
        AffixWorks mill = new AffixWorks();
        int pair = mill.pair(1, 2, 3);
        int both = mill.unite(pair, mill.pair(1, 2, 4));
        mill.type(1);
        check.due("two ways", 1, () -> mill.answers(both, DOWN));
        check.due("two ways up", 0, () -> mill.answers(both, UP));
        Mills.retype(mill, "2");
        check.due("up for 2", 1, () -> mill.answers(both, UP));
    }

    static void promise21_machineThatRelatesNothingHas0(Check check) {
        AffixWorks mill = new AffixWorks();
        int nothing = Bounds.nothing(mill);
        check.due("down", 0, () -> mill.answers(nothing, DOWN));
        check.due("up", 0, () -> mill.answers(nothing, UP));
    }

    static void promise21_wordStays(Check check) {
        AffixWorks mill = Bounds.withMachines(1);
        mill.answers(0, DOWN);
        check.same("the word", Mills.typedWord(mill), "12");
    }
}
