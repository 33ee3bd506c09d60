/** Promise 24, its boundaries: no change, one change of each kind, as many as can be. */
public final class Promise24ChangesTest {
    public static void main(String[] args) {
        Cases.run(Promise24ChangesTest.class);
    }

    private static void changes(Check check, AffixWorks mill, int machine, String word, int due) {
        Mills.retype(mill, word);
        check.due("changes of " + word, due, () -> mill.changes(machine));
        check.same("the word behind it", Mills.typedWord(mill), word);
    }

    static void promise24_noMachineIsRefused(Check check) {
        Bounds.noMachineIsRefused(check, (mill, machine) -> mill.changes(machine));
    }

    static void promise24_of3_0To2AreTaken_minus1And3AreRefused(Check check) {
        Bounds.machinesBesideAreRefused(check, (mill, machine) -> mill.changes(machine));
    }

    static void promise24_of24_23IsTaken_24IsRefused(Check check) {
        Bounds.machine23IsTaken24Refused(check, (mill, machine) -> mill.changes(machine));
    }

    static void promise24_machineThatRelatesNothingIsMinus1(Check check) {
        AffixWorks mill = new AffixWorks();
        int nothing = Bounds.nothing(mill);
        changes(check, mill, nothing, "", -1);
        changes(check, mill, nothing, "1", -1);
        changes(check, mill, nothing, "01234567", -1);
    }

    static void promise24_wordThatIsAnUpperWordIs0(Check check) {
        AffixWorks mill = new AffixWorks();
        changes(check, mill, Mills.word(mill, ""), "", 0);
        changes(check, mill, Mills.word(mill, "5"), "5", 0);
        changes(check, mill, Mills.word(mill, "01234567"), "01234567", 0);
    }

    static void promise24_letterPutInIs1(Check check) {
        AffixWorks mill = new AffixWorks();
        int word = Mills.word(mill, "123");
        changes(check, mill, word, "23", 1);
        changes(check, mill, word, "13", 1);
        changes(check, mill, word, "12", 1);
        changes(check, mill, Mills.word(mill, "1"), "", 1);
    }

    static void promise24_letterLeftOutIs1(Check check) {
        AffixWorks mill = new AffixWorks();
        int word = Mills.word(mill, "123");
        changes(check, mill, word, "0123", 1);
        changes(check, mill, word, "1203", 1);
        changes(check, mill, word, "1230", 1);
        changes(check, mill, Mills.word(mill, ""), "1", 1);
    }

    static void promise24_letterExchangedIs1(Check check) {
        AffixWorks mill = new AffixWorks();
        int word = Mills.word(mill, "123");
        changes(check, mill, word, "023", 1);
        changes(check, mill, word, "103", 1);
        changes(check, mill, word, "120", 1);
    }

    static void promise24_twoLettersThatChangedPlacesAre2(Check check) {
        AffixWorks mill = new AffixWorks();
        int word = Mills.word(mill, "123");
        changes(check, mill, word, "213", 2);
        changes(check, mill, word, "132", 2);
    }

    static void promise24_emptyUpperWordLeavesAllLettersOut(Check check) {
        AffixWorks mill = new AffixWorks();
        int empty = mill.word();
        int put = mill.pair(8, 1, 100);
        changes(check, mill, empty, "11111111", 8);
        changes(check, mill, put, "11111111", 8);
        changes(check, mill, put, "", 0);
    }

    static void promise24_emptyWordHasAllLettersPutIn(Check check) {
        AffixWorks mill = new AffixWorks();
        changes(check, mill, Mills.word(mill, "01234567"), "", 8);
        changes(check, mill, Bounds.states(mill, 32), "", 28);
    }

    static void promise24_upperWordOf31Letters(Check check) {
        AffixWorks mill = new AffixWorks();
        int most = Bounds.word31(mill);
        check.due("its states", 32031, () -> mill.size(most));
        changes(check, mill, most, "", 31);
        changes(check, mill, most, "00000000", 23);
        changes(check, mill, most, "22222222", 31);
        changes(check, mill, most, "11111111", 30);
        changes(check, mill, most, "0101", 28);
    }

    static void promise24_allLettersExchangedAre8(Check check) {
        AffixWorks mill = new AffixWorks();
        changes(check, mill, Mills.word(mill, "00000000"), "11111111", 8);
        changes(check, mill, Mills.word(mill, "76543210"), "00000000", 7);
    }

    static void promise24_fewestOfSeveralWords(Check check) {
        AffixWorks mill = new AffixWorks();
        int words = mill.unite(Mills.word(mill, "1111"), Mills.word(mill, "22"));
        changes(check, mill, words, "11", 2);
        changes(check, mill, words, "111", 1);
        changes(check, mill, words, "2", 1);
        changes(check, mill, words, "", 2);
    }

    static void promise24_costsOfArcsDoNotMatter(Check check) {
        AffixWorks mill = new AffixWorks();
        changes(check, mill, Bounds.dearest(mill), "1", 0);
        changes(check, mill, mill.unite(mill.pair(3, 3, 100), mill.pair(4, 4, 0)), "3", 0);
    }

    static void promise24_lowerLettersDoNotMatter(Check check) {
        AffixWorks mill = new AffixWorks();
        int pair = mill.pair(1, 2, 0);
        changes(check, mill, pair, "1", 0);
        changes(check, mill, pair, "2", 1);
        changes(check, mill, mill.pair(1, 8, 0), "1", 0);
    }
}
