/** Promise 11, its boundaries: what two arcs cost, 32 states, 160 arcs, 24 machines. */
public final class Promise11ComposeTest {
    public static void main(String[] args) {
        Cases.run(Promise11ComposeTest.class);
    }

    static void promise11_noMachineIsRefused(Check check) {
        Bounds.noMachineIsRefused(check, (mill, machine) -> mill.compose(machine, machine));
    }

    static void promise11_firstOf3_0To2AreTaken_minus1And3AreRefused(Check check) {
        Bounds.machinesBesideAreRefused(check, (mill, machine) -> mill.compose(machine, 1));
    }

    static void promise11_secondOf3_0To2AreTaken_minus1And3AreRefused(Check check) {
        Bounds.machinesBesideAreRefused(check, (mill, machine) -> mill.compose(1, machine));
    }

    static void promise11_machines24AreTaken_25thIsRefused(Check check) {
        Bounds.machines24AreTaken25thRefused(check, mill -> mill.compose(0, 22));
    }

    static void promise11_noSuchMachineGoesAheadOf24Machines(Check check) {
        Bounds.indexGoesAheadOf24Machines(check, (mill, machine) -> mill.compose(machine, 0));
        Bounds.indexGoesAheadOf24Machines(check, (mill, machine) -> mill.compose(0, machine));
    }

    static void promise11_noSuchMachineGoesAheadOfTooDearArcs(Check check) {
        AffixWorks mill = new AffixWorks();
        int dearest = Bounds.dearest(mill);
        int count = Mills.count(mill);
        check.refusedUnchanged("too dear", Check.STATE, mill, () -> mill.compose(dearest, dearest));
        check.refusedUnchanged("no second", Check.INDEX, mill, () -> mill.compose(dearest, count));
        check.refusedUnchanged("no first", Check.INDEX, mill, () -> mill.compose(-1, dearest));
    }

    static void promise11_arcsOf1000000TogetherAreTaken_of1000001Refused(Check check) {
        AffixWorks mill = new AffixWorks();
        int dearest = Bounds.dearest(mill);
        int free = mill.pair(1, 1, 0);
        int cheap = mill.pair(1, 1, 1);
        check.refusedUnchanged("1000001", Check.STATE, mill, () -> mill.compose(dearest, cheap));
        check.refusedUnchanged("1 and 1000000", Check.STATE, mill, () -> mill.compose(cheap, dearest));
        check.refusedUnchanged("2000000", Check.STATE, mill, () -> mill.compose(dearest, dearest));
        check.shown("1000000", mill, mill.compose(dearest, free), "2 [1] 0:1/1$1000000>1");
        check.shown("0 and 1000000", mill, mill.compose(free, dearest), "2 [1] 0:1/1$1000000>1");
    }

    static void promise11_arcsToWhichThereIsNoWayTogetherAreLookedAtToo(Check check) {
        AffixWorks mill = new AffixWorks();
        int dearest = Bounds.dearest(mill);
        int behind = mill.join(mill.pair(5, 5, 0), dearest);
        int ahead = mill.join(mill.pair(1, 1, 1), mill.pair(6, 6, 0));
        check.due("machines", 23, () -> Mills.count(mill));
        check.refusedUnchanged("of whatever states", Check.STATE, mill, () -> mill.compose(behind, ahead));
        check.refusedUnchanged("the other way", Check.STATE, mill, () -> mill.compose(ahead, behind));
    }

    static void promise11_arcsOfOtherLettersMayCostMoreThan1000000(Check check) {
        AffixWorks mill = new AffixWorks();
        int dearest = Bounds.dearest(mill);
        int other = mill.pair(2, 1, 1);
        check.shown("they do not meet", mill, mill.compose(dearest, other), "1 []");
        check.refusedUnchanged("they meet", Check.STATE, mill, () -> mill.compose(other, dearest));
    }

    static void promise11_emptyLettersNeverMeetWhateverTheyCost(Check check) {
        AffixWorks mill = new AffixWorks();
        int away = mill.compose(Bounds.dearest(mill), mill.pair(1, 8, 0));
        int put = mill.turn(away);
        check.shown("away", mill, away, "2 [1] 0:1/8$1000000>1");
        check.shown("away, then put", mill, mill.compose(away, put),
                "4 [3] 0:1/8$1000000>1 0:8/1$1000000>2 1:8/1$1000000>3 2:1/8$1000000>3");
    }

    /** The first takes letters away in n states, the second puts some in m: n * m states. */
    private static int row(AffixWorks mill, int pair, int states) {
        int made = -1;
        for (int left = states; left > 0; left -= 2) {
            int part = left == 1 ? Bounds.empty(mill) : pair;
            made = made < 0 ? part : mill.join(made, part);
        }
        return made;
    }

    static void promise11_states32AreTaken_33AreRefused(Check check) {
        AffixWorks mill = new AffixWorks();
        int away = mill.pair(1, 8, 0);
        int put = mill.pair(8, 1, 0);
        int away4 = row(mill, away, 4);
        int put8 = row(mill, put, 8);
        int away3 = row(mill, away, 3);
        int put11 = row(mill, put, 11);
        check.refusedUnchanged("3 * 11 states", Check.STATE, mill, () -> mill.compose(away3, put11));
        int made = mill.compose(away4, put8);
        check.due("the number of 4 * 8 states", put11 + 1, () -> made);
        check.due("their size", 32052, () -> mill.size(made));
    }

    static void promise11_arcs160AreTaken_161AreRefused(Check check) {
        AffixWorks mill = new AffixWorks();
        int[] anys = Bounds.anys(mill);
        // 17 of its arcs are of letter 0, each of which becomes two.
        int rows = mill.join(mill.join(anys[9], anys[4]), anys[4]);
        int fits = mill.join(rows, Mills.word(mill, "1111"));
        int more = mill.join(rows, Mills.word(mill, "11111"));
        int free = mill.rule(0, 1, -1, -1, true);
        check.due("143 arcs", 25143, () -> mill.size(fits));
        check.refusedUnchanged("161 arcs", Check.STATE, mill, () -> mill.compose(more, free));
        check.due("160 arcs", 25160, () -> mill.size(mill.compose(fits, free)));
    }

    static void promise11_arcs160OfTheOtherAreTaken_161AreRefused(Check check) {
        AffixWorks mill = new AffixWorks();
        int[] anys = Bounds.anys(mill);
        int rows = mill.join(mill.join(anys[9], anys[4]), anys[4]);
        int fits = mill.join(rows, Mills.word(mill, "1111"));
        int more = mill.join(rows, Mills.word(mill, "11111"));
        int free = mill.rule(2, 0, -1, -1, true);
        check.refusedUnchanged("161 arcs", Check.STATE, mill, () -> mill.compose(free, more));
        check.due("160 arcs", 25160, () -> mill.size(mill.compose(free, fits)));
    }

    static void promise11_1024PairsOfStatesAreTaken(Check check) {
        AffixWorks mill = new AffixWorks();
        int most = Bounds.cyclesAndOnes(mill, 1);
        check.due("states", 32, () -> mill.size(most) / 1000);
        check.same("with itself", Mills.show(mill, mill.compose(most, most)), Mills.show(mill, most));
    }

    /** 3200 pairs of arcs meet, of which 160 are on a way. */
    static void promise11_machinesOf160ArcsAreTaken(Check check) {
        AffixWorks mill = new AffixWorks();
        int most = Bounds.cycleOf160Arcs(mill);
        check.due("160 arcs", 20160, () -> mill.size(most));
        check.same("with itself", Mills.show(mill, mill.compose(most, most)), Mills.show(mill, most));
    }

    static void promise11_statesAndArcsThatAreTrimmedDoNotCount(Check check) {
        AffixWorks mill = new AffixWorks();
        int away = mill.pair(1, 8, 0);
        int put = mill.pair(8, 1, 0);
        int away8 = row(mill, away, 8);
        int put8 = row(mill, put, 8);
        int nothing = Bounds.nothing(mill);
        check.refusedUnchanged("64 states", Check.STATE, mill, () -> mill.compose(away8, put8));
        int dead = mill.compose(put8, nothing);
        check.shown("8 states and nothing", mill, dead, "1 []");
        int one = mill.join(away8, mill.pair(1, 2, 0));
        int other = mill.join(put8, mill.pair(3, 2, 0));
        check.shown("64 states that lead nowhere", mill, mill.compose(one, other), "1 []");
    }

    static void promise11_machineThatRelatesNothingHasNoArcs(Check check) {
        AffixWorks mill = new AffixWorks();
        int loop = Bounds.cycle(mill, Bounds.zeros(mill, 1));
        int one = mill.least(mill.join(loop, Mills.word(mill, "1")));
        int two = mill.least(mill.join(loop, Mills.word(mill, "2")));
        check.shown("rows of 0 with ends that differ", mill, mill.compose(one, two), "1 []");
    }

    static void promise11_secondMayBeTheSame(Check check) {
        AffixWorks mill = new AffixWorks();
        mill.pair(1, 1, 50);
        check.due("compose(0, 0)", 1, () -> mill.compose(0, 0));
        check.shown("it", mill, 1, "2 [1] 0:1/1$100>1");
    }

    static void promise11_emptyWordsAreComposed(Check check) {
        AffixWorks mill = new AffixWorks();
        int empty = mill.word();
        int away = mill.pair(1, 8, 2);
        int put = mill.pair(8, 1, 3);
        check.shown("both empty", mill, mill.compose(empty, empty), "1 [0]");
        check.shown("away and empty", mill, mill.compose(away, empty), "2 [1] 0:1/8$2>1");
        check.shown("empty and put", mill, mill.compose(empty, put), "2 [1] 0:8/1$3>1");
        check.shown("empty and away", mill, mill.compose(empty, away), "1 []");
        check.shown("put and empty", mill, mill.compose(put, empty), "1 []");
    }

    static void promise11_refusedCallChangesNothing(Check check) {
        AffixWorks mill = new AffixWorks();
        int dearest = Bounds.dearest(mill);
        int count = Mills.count(mill);
        check.refusedUnchanged("too dear", Check.STATE, mill, () -> mill.compose(dearest, dearest));
        check.refusedUnchanged("no such machine", Check.INDEX, mill, () -> mill.compose(dearest, 24));
        check.due("the next number is free", count, () -> mill.any());
    }
}
