/** Promise 25, its boundaries: places, a machine that relates nothing, the first of several words. */
public final class Promise25MendedTest {
    public static void main(String[] args) {
        Cases.run(Promise25MendedTest.class);
    }

    private static void mended(Check check, AffixWorks mill, int machine, String word, String due) {
        Mills.retype(mill, word);
        check.same("mended " + word, Mills.mended(mill, machine), due);
        check.same("the word behind it", Mills.typedWord(mill), word);
    }

    static void promise25_noMachineIsRefused(Check check) {
        Bounds.noMachineIsRefused(check, (mill, machine) -> mill.mended(machine, 0));
    }

    static void promise25_of3_0To2AreTaken_minus1And3AreRefused(Check check) {
        Bounds.machinesBesideAreRefused(check, (mill, machine) -> mill.mended(machine, 0));
    }

    static void promise25_of24_23IsTaken_24IsRefused(Check check) {
        Bounds.machine23IsTaken24Refused(check, (mill, machine) -> mill.mended(machine, 0));
    }

    static void promise25_place0IsTaken_minus1IsRefused(Check check) {
        AffixWorks mill = Mills.typed("12");
        mill.word();
        int nothing = Bounds.nothing(mill);
        check.refusedUnchanged("place -1", Check.INDEX, mill, () -> mill.mended(0, -1));
        check.refusedUnchanged("place far below", Check.INDEX, mill, () -> mill.mended(0, Integer.MIN_VALUE));
        check.refusedUnchanged("place -1 of nothing", Check.INDEX, mill, () -> mill.mended(nothing, -1));
        check.due("place 0", 1, () -> mill.mended(0, 0));
    }

    static void promise25_placeBehindTheLastLetterIs8(Check check) {
        AffixWorks mill = Mills.typed("12");
        mill.word();
        check.due("the last letter", 2, () -> mill.mended(0, 1));
        check.due("behind it", 8, () -> mill.mended(0, 2));
        check.due("as far as can be", 8, () -> mill.mended(0, Integer.MAX_VALUE));
        mill.type(3);
        check.due("behind it, of a longer word", 8, () -> mill.mended(0, 2));
    }

    static void promise25_machineThatRelatesNothingIsMinus1AtAnyPlace(Check check) {
        AffixWorks mill = Mills.typed("12");
        int nothing = Bounds.nothing(mill);
        check.due("place 0", -1, () -> mill.mended(nothing, 0));
        check.due("far behind", -1, () -> mill.mended(nothing, Integer.MAX_VALUE));
        mill.clear();
        check.due("for no letter", -1, () -> mill.mended(nothing, 0));
    }

    static void promise25_emptyUpperWordIs8(Check check) {
        AffixWorks mill = new AffixWorks();
        int empty = mill.word();
        mended(check, mill, empty, "", "");
        mended(check, mill, empty, "01234567", "");
        check.due("place 0", 8, () -> mill.mended(empty, 0));
    }

    static void promise25_wordThatIsAnUpperWordStays(Check check) {
        AffixWorks mill = new AffixWorks();
        int all = mill.repeat(mill.any());
        mended(check, mill, all, "", "");
        mended(check, mill, all, "7", "7");
        mended(check, mill, all, "76543210", "76543210");
    }

    static void promise25_fewerChangesGoAheadOfTheOrder(Check check) {
        AffixWorks mill = new AffixWorks();
        int words = mill.unite(Mills.word(mill, "0000"), Mills.word(mill, "7777"));
        mended(check, mill, words, "7700", "0000");
        mended(check, mill, words, "7770", "7777");
        mended(check, mill, words, "1777", "7777");
    }

    static void promise25_ofTheSameChangesTheFirstInOrder(Check check) {
        AffixWorks mill = new AffixWorks();
        mended(check, mill, mill.any(), "", "0");
        mended(check, mill, mill.unite(Mills.word(mill, "7"), Mills.word(mill, "3")), "5", "3");
        mended(check, mill, mill.unite(Mills.word(mill, "53"), Mills.word(mill, "52")), "5", "52");
    }

    static void promise25_wordIsAheadOfThoseThatGoOnBehindIt(Check check) {
        AffixWorks mill = new AffixWorks();
        int words = mill.unite(Mills.word(mill, "11"), Mills.word(mill, "1"));
        mended(check, mill, words, "10", "1");
        mended(check, mill, words, "0", "1");
        int shorter = mill.unite(words, mill.pair(8, 8, 0));
        mended(check, mill, shorter, "0", "");
        mended(check, mill, shorter, "", "");
    }

    static void promise25_upperWordOf31Letters(Check check) {
        AffixWorks mill = new AffixWorks();
        int most = Bounds.word31(mill);
        String word = "000000000000000" + "1" + "000000000000000";
        check.due("its states", 32031, () -> mill.size(most));
        mended(check, mill, most, "", word);
        check.due("place 15", 1, () -> mill.mended(most, 15));
        check.due("place 30", 0, () -> mill.mended(most, 30));
        check.due("place 31", 8, () -> mill.mended(most, 31));
        mended(check, mill, most, "77777777", word);
    }

    static void promise25_costsOfArcsDoNotMatter(Check check) {
        AffixWorks mill = new AffixWorks();
        mended(check, mill, mill.unite(mill.pair(3, 3, 100), mill.pair(4, 4, 0)), "5", "3");
        mended(check, mill, mill.unite(mill.pair(4, 4, 0), mill.pair(3, 3, 100)), "5", "3");
    }

    static void promise25_emptyArcsAreNoChanges(Check check) {
        AffixWorks mill = new AffixWorks();
        int put = mill.pair(8, 1, 0);
        int words = mill.join(put, mill.join(mill.pair(3, 8, 0), put));
        mended(check, mill, words, "3", "3");
        mended(check, mill, words, "", "3");
        mended(check, mill, words, "131", "3");
    }
}
