/** Promise 26, its boundaries: plain machines, 200 pairs of sets, places, no word at all. */
public final class Promise26ApartTest {
    public static void main(String[] args) {
        Cases.run(Promise26ApartTest.class);
    }

    private static void apart(Check check, AffixWorks mill, int first, int second, String due) {
        check.same(first + " apart from " + second, Mills.apart(mill, first, second), due);
        check.same(second + " apart from " + first, Mills.apart(mill, second, first), due);
    }

    static void promise26_noMachineIsRefused(Check check) {
        Bounds.noMachineIsRefused(check, (mill, machine) -> mill.apart(machine, machine, 0));
    }

    static void promise26_firstOf3_0To2AreTaken_minus1And3AreRefused(Check check) {
        Bounds.machinesBesideAreRefused(check, (mill, machine) -> mill.apart(machine, 1, 0));
    }

    static void promise26_secondOf3_0To2AreTaken_minus1And3AreRefused(Check check) {
        Bounds.machinesBesideAreRefused(check, (mill, machine) -> mill.apart(1, machine, 0));
    }

    static void promise26_of24_23IsTaken_24IsRefused(Check check) {
        Bounds.machine23IsTaken24Refused(check, (mill, machine) -> mill.apart(machine, 0, 0));
        Bounds.machine23IsTaken24Refused(check, (mill, machine) -> mill.apart(0, machine, 0));
    }

    static void promise26_place0IsTaken_minus1IsRefused(Check check) {
        AffixWorks mill = new AffixWorks();
        int one = Mills.word(mill, "1");
        int two = Mills.word(mill, "2");
        check.refusedUnchanged("place -1", Check.INDEX, mill, () -> mill.apart(one, two, -1));
        check.refusedUnchanged("place -1 of none", Check.INDEX, mill, () -> mill.apart(one, one, -1));
        check.refusedUnchanged("place far below", Check.INDEX, mill,
                () -> mill.apart(one, two, Integer.MIN_VALUE));
        check.due("place 0", 1, () -> mill.apart(one, two, 0));
    }

    static void promise26_placeBehindTheLastLetterIs8(Check check) {
        AffixWorks mill = new AffixWorks();
        int one = Mills.word(mill, "12");
        int two = Mills.word(mill, "13");
        check.due("the last letter", 2, () -> mill.apart(one, two, 1));
        check.due("behind it", 8, () -> mill.apart(one, two, 2));
        check.due("as far as can be", 8, () -> mill.apart(one, two, Integer.MAX_VALUE));
    }

    static void promise26_noWordIsMinus1AtAnyPlace(Check check) {
        AffixWorks mill = new AffixWorks();
        int one = Mills.word(mill, "1");
        int nothing = Bounds.nothing(mill);
        check.due("from itself", -1, () -> mill.apart(one, one, 0));
        check.due("from itself, far behind", -1, () -> mill.apart(one, one, Integer.MAX_VALUE));
        check.due("nothing from nothing", -1, () -> mill.apart(nothing, nothing, 0));
        check.due("from the least", -1, () -> mill.apart(one, mill.least(one), 0));
    }

    static void promise26_emptyWordIs8(Check check) {
        AffixWorks mill = new AffixWorks();
        int empty = mill.word();
        int nothing = Bounds.nothing(mill);
        int all = mill.repeat(mill.any());
        apart(check, mill, empty, nothing, "");
        apart(check, mill, all, nothing, "");
        check.due("place 0", 8, () -> mill.apart(empty, nothing, 0));
        check.due("place 0, the other way", 8, () -> mill.apart(nothing, empty, 0));
    }

    static void promise26_shorterWordGoesAheadOfTheOrder(Check check) {
        AffixWorks mill = new AffixWorks();
        int one = mill.unite(Mills.word(mill, "00"), Mills.word(mill, "7"));
        int nothing = Bounds.nothing(mill);
        apart(check, mill, one, nothing, "7");
        int other = Mills.word(mill, "7");
        apart(check, mill, one, other, "00");
    }

    static void promise26_ofTheSameLengthTheFirstInOrder(Check check) {
        AffixWorks mill = new AffixWorks();
        int one = Mills.word(mill, "21");
        int two = Mills.word(mill, "12");
        apart(check, mill, one, two, "12");
        apart(check, mill, mill.any(), Bounds.nothing(mill), "0");
    }

    static void promise26_arcsOfCost0ArePlain_ofCost1AreRefused(Check check) {
        AffixWorks mill = new AffixWorks();
        int free = mill.pair(3, 3, 0);
        for (int machine : new int[] {mill.pair(3, 3, 1), mill.pair(8, 8, 1)}) {
            check.refusedUnchanged("the first", Check.STATE, mill, () -> mill.apart(machine, free, 0));
            check.refusedUnchanged("the second", Check.STATE, mill, () -> mill.apart(free, machine, 0));
            check.refusedUnchanged("both", Check.STATE, mill, () -> mill.apart(machine, machine, 0));
        }
        check.due("of no cost", -1, () -> mill.apart(free, free, 0));
    }

    static void promise26_lettersThatDifferAreRefused(Check check) {
        AffixWorks mill = new AffixWorks();
        int plain = mill.any();
        for (int unlike : new int[] {mill.pair(3, 4, 0), mill.pair(3, 8, 0), mill.pair(8, 3, 0)}) {
            check.refusedUnchanged("the first", Check.STATE, mill, () -> mill.apart(unlike, plain, 0));
            check.refusedUnchanged("the second", Check.STATE, mill, () -> mill.apart(plain, unlike, 0));
        }
    }

    static void promise26_noSuchMachineGoesAheadOfOneThatIsNotPlain(Check check) {
        AffixWorks mill = new AffixWorks();
        mill.pair(1, 2, 3);
        check.refusedUnchanged("no second", Check.INDEX, mill, () -> mill.apart(0, 1, 0));
        check.refusedUnchanged("no first", Check.INDEX, mill, () -> mill.apart(-1, 0, 0));
        check.refusedUnchanged("both exist", Check.STATE, mill, () -> mill.apart(0, 0, 0));
    }

    static void promise26_placeBelow0GoesAheadOfOneThatIsNotPlain(Check check) {
        AffixWorks mill = new AffixWorks();
        mill.pair(1, 2, 3);
        check.refusedUnchanged("place -1", Check.INDEX, mill, () -> mill.apart(0, 0, -1));
    }

    /** Cycles of 8 and of 25 letters have 200 pairs; one of 8 whose first state is twice has 201. */
    static void promise26_pairs200AreTaken_201AreRefused(Check check) {
        AffixWorks mill = new AffixWorks();
        int eight = Mills.word(mill, "00000000");
        int many = mill.join(mill.join(eight, eight), mill.join(eight, Mills.word(mill, "0")));
        int raw = mill.repeat(eight);
        int first = mill.least(raw);
        int second = Bounds.cycle(mill, many);
        check.due("states", 25025, () -> mill.size(second));
        apart(check, mill, first, second, "00000000");
        check.refusedUnchanged("201 pairs", Check.STATE, mill, () -> mill.apart(raw, second, 0));
        check.refusedUnchanged("201 pairs, the other way", Check.STATE, mill, () -> mill.apart(second, raw, 0));
    }

    static void promise26_placeBelow0GoesAheadOf201Pairs(Check check) {
        AffixWorks mill = new AffixWorks();
        int eight = Mills.word(mill, "00000000");
        int many = mill.join(mill.join(eight, eight), mill.join(eight, Mills.word(mill, "0")));
        int raw = mill.repeat(eight);
        int second = Bounds.cycle(mill, many);
        check.refusedUnchanged("place -1", Check.INDEX, mill, () -> mill.apart(raw, second, -1));
        check.refusedUnchanged("place 9", Check.STATE, mill, () -> mill.apart(raw, second, 9));
    }

    /** 198 pairs, one for no letter, and one for each 1 that but one machine reads. */
    static void promise26_pairsWithOneEmptySetCount(Check check) {
        AffixWorks mill = new AffixWorks();
        int eight = Bounds.zeros(mill, 8);
        int nine = Bounds.cycle(mill, mill.join(eight, Bounds.zeros(mill, 1)));
        int many = Bounds.cycle(mill, mill.join(mill.join(eight, eight), Bounds.zeros(mill, 6)));
        int fits = mill.unite(nine, Mills.word(mill, "1"));
        int more = mill.unite(nine, Mills.word(mill, "11"));
        apart(check, mill, fits, many, "1");
        check.refusedUnchanged("201 pairs", Check.STATE, mill, () -> mill.apart(more, many, 0));
        check.refusedUnchanged("201 pairs, the other way", Check.STATE, mill, () -> mill.apart(many, more, 0));
    }

    /** All pairs are looked at, although the machines differ in the word of one letter. */
    static void promise26_pairs201AreRefusedThoughAWordIsFoundEarlier(Check check) {
        AffixWorks mill = new AffixWorks();
        int eight = Bounds.zeros(mill, 8);
        int nine = Bounds.cycle(mill, mill.join(eight, Bounds.zeros(mill, 1)));
        int many = Bounds.cycle(mill, mill.join(mill.join(eight, eight), Bounds.zeros(mill, 6)));
        int fits = mill.unite(nine, Mills.word(mill, "1"));
        int more = mill.unite(fits, Mills.word(mill, "22"));
        check.due("200 pairs", 1, () -> mill.apart(fits, many, 0));
        check.refusedUnchanged("202 pairs", Check.STATE, mill, () -> mill.apart(more, many, 0));
    }

    /** All rows of 0, and those whose count is not 4 above the nines and 8 above the 22s. */
    static void promise26_wordOf184Letters(Check check) {
        AffixWorks mill = new AffixWorks();
        int one = Bounds.zeros(mill, 1);
        int eight = Bounds.zeros(mill, 8);
        int all = Bounds.cycle(mill, one);
        int nine = Bounds.cycle(mill, mill.join(eight, one));
        int more = Bounds.cycle(mill, mill.join(mill.join(eight, eight), Bounds.zeros(mill, 6)));
        int first = mill.meet(all, mill.join(nine, Bounds.zeros(mill, 4)), false);
        int second = mill.meet(all, mill.join(more, eight), false);
        int both = mill.unite(first, second);
        check.due("states", 32, () -> mill.size(both) / 1000);
        apart(check, mill, all, both, "0".repeat(184));
        check.due("place 183", 0, () -> mill.apart(all, both, 183));
        check.due("place 184", 8, () -> mill.apart(all, both, 184));
    }

    static void promise26_24MachinesMayBeThere(Check check) {
        AffixWorks mill = Bounds.withMachines(24);
        check.due("from itself", -1, () -> mill.apart(23, 23, 0));
        check.due("from another", -1, () -> mill.apart(0, 23, 0));
    }

    static void promise26_machinesOf32StatesAreTaken(Check check) {
        AffixWorks mill = new AffixWorks();
        int most = Bounds.states(mill, 32);
        int fewer = Bounds.states(mill, 31);
        apart(check, mill, most, most, "none");
        apart(check, mill, most, fewer, "0".repeat(27));
        check.due("the last letter", 0, () -> mill.apart(most, fewer, 26));
        check.due("behind it", 8, () -> mill.apart(most, fewer, 27));
    }

    static void promise26_wordStays(Check check) {
        AffixWorks mill = Bounds.withMachines(2);
        mill.apart(0, 1, 0);
        check.same("the word", Mills.typedWord(mill), "12");
    }
}
