/** Promise 9, its boundaries: empty words, machines that exist, 32 states, 160 arcs, 24 machines. */
public final class Promise09RepeatTest {
    public static void main(String[] args) {
        Cases.run(Promise09RepeatTest.class);
    }

    static void promise09_noMachineIsRefused(Check check) {
        Bounds.noMachineIsRefused(check, (mill, machine) -> mill.repeat(machine));
    }

    static void promise09_of3_0To2AreTaken_minus1And3AreRefused(Check check) {
        Bounds.machinesBesideAreRefused(check, (mill, machine) -> mill.repeat(machine));
    }

    static void promise09_machines24AreTaken_25thIsRefused(Check check) {
        Bounds.machines24AreTaken25thRefused(check, mill -> mill.repeat(22));
    }

    static void promise09_noSuchMachineGoesAheadOf24Machines(Check check) {
        Bounds.indexGoesAheadOf24Machines(check, (mill, machine) -> mill.repeat(machine));
    }

    static void promise09_states32AreTaken_33AreRefused(Check check) {
        AffixWorks mill = new AffixWorks();
        int fits = Bounds.states(mill, 31);
        int more = Bounds.states(mill, 32);
        check.refusedUnchanged("33 states", Check.STATE, mill, () -> mill.repeat(more));
        int made = mill.repeat(fits);
        check.due("the number of the one of 32 states", more + 1, () -> made);
        check.due("its size", 32032, () -> mill.size(made));
    }

    static void promise09_arcs160AreTaken_161AreRefused(Check check) {
        AffixWorks mill = new AffixWorks();
        int[] anys = Bounds.anys(mill);
        int fits = mill.join(anys[10], Bounds.arcs73And(mill, anys, 4));
        int more = mill.join(anys[10], Bounds.arcs73And(mill, anys, 5));
        check.due("158 arcs", 26158, () -> mill.size(fits));
        check.refusedUnchanged("161 arcs", Check.STATE, mill, () -> mill.repeat(more));
        check.due("160 arcs", 27160, () -> mill.size(mill.repeat(fits)));
    }

    static void promise09_eachEndLeadsBack(Check check) {
        AffixWorks mill = new AffixWorks();
        int both = mill.unite(mill.pair(1, 1, 0), mill.pair(2, 2, 0));
        check.shown("two ends", mill, mill.repeat(both),
                "6 [0] 0:8/8$0>1 1:8/8$0>2 1:8/8$0>3 2:1/1$0>4 3:2/2$0>5 4:8/8$0>0 5:8/8$0>0");
    }

    static void promise09_noneOnceAndMoreAreRelated(Check check) {
        AffixWorks mill = new AffixWorks();
        int repeated = mill.repeat(mill.pair(1, 2, 3));
        String[] words = {"", "1", "11", "11111111"};
        for (String word : words) {
            Mills.retype(mill, word);
            check.same("answers for " + word, Mills.answers(mill, repeated, false),
                    "1: " + word.replace('1', '2'));
            check.due("cost of " + word, 3 * word.length(), () -> mill.cost(repeated, false));
        }
        Mills.retype(mill, "12");
        check.due("another word", 0, () -> mill.answers(repeated, false));
    }

    static void promise09_machineThatRelatesNothingIsTaken(Check check) {
        AffixWorks mill = new AffixWorks();
        int nothing = Bounds.nothing(mill);
        check.shown("none of it", mill, mill.repeat(nothing), "1 [0]");
    }

    static void promise09_emptyWordToItselfIsRefused(Check check) {
        AffixWorks mill = new AffixWorks();
        int empty = mill.word();
        int idle = mill.pair(8, 8, 0);
        int dear = mill.pair(8, 8, 100);
        int again = mill.repeat(mill.any());
        for (int machine : new int[] {empty, idle, dear, again}) {
            check.refusedUnchanged("repeat(" + machine + ")", Check.STATE, mill, () -> mill.repeat(machine));
        }
    }

    static void promise09_wordOf1LetterToTheEmptyWordIsRefused(Check check) {
        AffixWorks mill = new AffixWorks();
        mill.pair(0, 8, 0);
        check.refusedUnchanged("repeat", Check.STATE, mill, () -> mill.repeat(0));
    }

    static void promise09_emptyWordToAWordOf1LetterIsRefused(Check check) {
        AffixWorks mill = new AffixWorks();
        mill.pair(8, 0, 0);
        check.refusedUnchanged("repeat", Check.STATE, mill, () -> mill.repeat(0));
    }

    /** A word can be longer than those that are typed. */
    static void promise09_wordOf16LettersToTheEmptyWordIsRefused(Check check) {
        for (boolean isDown : new boolean[] {true, false}) {
            AffixWorks mill = new AffixWorks();
            int away = isDown ? mill.pair(0, 8, 0) : mill.pair(8, 0, 0);
            int two = mill.join(away, away);
            int four = mill.join(two, two);
            int eight = mill.join(four, four);
            int sixteen = mill.join(eight, eight);
            check.due("states", 32031, () -> mill.size(sixteen));
            check.refusedUnchanged("16 letters", Check.STATE, mill, () -> mill.repeat(sixteen));
            check.refusedUnchanged("8 letters", Check.STATE, mill, () -> mill.repeat(eight));
        }
    }

    static void promise09_emptyWayBesideAnotherOneIsRefused(Check check) {
        AffixWorks mill = new AffixWorks();
        int any = mill.any();
        int away = mill.unite(any, mill.pair(1, 8, 0));
        int put = mill.unite(mill.pair(8, 1, 0), any);
        check.refusedUnchanged("repeat of one that takes away", Check.STATE, mill, () -> mill.repeat(away));
        check.refusedUnchanged("repeat of one that puts", Check.STATE, mill, () -> mill.repeat(put));
    }

    /** Of its states the ones on the empty way are found early, by ways of letters. */
    static void promise09_emptyWayThatGoesOnFromALateStateIsRefused(Check check) {
        AffixWorks mill = new AffixWorks();
        int idle = mill.pair(8, 8, 0);
        int late = mill.join(mill.unite(mill.any(), mill.join(idle, idle)), idle);
        check.refusedUnchanged("repeat", Check.STATE, mill, () -> mill.repeat(late));
        int away = mill.pair(1, 8, 0);
        int far = mill.join(mill.unite(mill.any(), mill.join(away, away)), idle);
        check.refusedUnchanged("repeat of 11 to none", Check.STATE, mill, () -> mill.repeat(far));
        int put = mill.turn(far);
        check.refusedUnchanged("repeat of none to 11", Check.STATE, mill, () -> mill.repeat(put));
    }

    static void promise09_emptyLettersOnAWayWithOthersAreTaken(Check check) {
        AffixWorks mill = new AffixWorks();
        int away = mill.pair(1, 8, 0);
        int put = mill.pair(8, 2, 0);
        int both = mill.join(away, put);
        check.due("taken away and put", 3, () -> mill.repeat(both));
        check.shown("it", mill, 3, "5 [0] 0:8/8$0>1 1:1/8$0>2 2:8/8$0>3 3:8/2$0>4 4:8/8$0>0");
    }

    static void promise09_noSuchMachineGoesAheadOfAnEmptyWord(Check check) {
        AffixWorks mill = new AffixWorks();
        mill.word();
        check.refusedUnchanged("machine 1", Check.INDEX, mill, () -> mill.repeat(1));
        check.refusedUnchanged("machine 0", Check.STATE, mill, () -> mill.repeat(0));
    }

    static void promise09_refusedCallChangesNothing(Check check) {
        AffixWorks mill = new AffixWorks();
        mill.word();
        int most = Bounds.states(mill, 32);
        check.refusedUnchanged("an empty word", Check.STATE, mill, () -> mill.repeat(0));
        check.refusedUnchanged("too many states", Check.STATE, mill, () -> mill.repeat(most));
        check.refusedUnchanged("no such machine", Check.INDEX, mill, () -> mill.repeat(-1));
        check.due("the next number is free", most + 1, () -> mill.any());
    }
}
