/** Promise 29, its boundaries: endings of 1 to 8 letters, 1 to 9 words, the lowest class of several. */
public final class Promise29GuessTest {
    public static void main(String[] args) {
        Cases.run(Promise29GuessTest.class);
    }

    private static void teach(AffixWorks mill, String word, int kind, int times) {
        Mills.retype(mill, word);
        for (int time = 0; time < times; time++) {
            mill.learn(kind);
        }
    }

    private static void guessed(Check check, AffixWorks mill, String word, int due) {
        Mills.retype(mill, word);
        check.due("guess of " + word, due, () -> mill.guess());
        check.same("the word behind it", Mills.typedWord(mill), word);
    }

    static void promise29_nothingLearntIsMinus1(Check check) {
        AffixWorks mill = new AffixWorks();
        guessed(check, mill, "", -1);
        guessed(check, mill, "1", -1);
        guessed(check, mill, "01234567", -1);
    }

    static void promise29_endingOf1LetterIsTaken_of0IsMinus1(Check check) {
        AffixWorks mill = new AffixWorks();
        teach(mill, "12", 3, 1);
        guessed(check, mill, "2", 131);
        guessed(check, mill, "02", 131);
        guessed(check, mill, "1", -1);
        guessed(check, mill, "21", -1);
    }

    static void promise29_emptyWordIsMinus1(Check check) {
        AffixWorks mill = new AffixWorks();
        teach(mill, "", 3, 2);
        teach(mill, "12", 3, 2);
        guessed(check, mill, "", -1);
    }

    static void promise29_emptyWordsThatWereLearntTellNothing(Check check) {
        AffixWorks mill = new AffixWorks();
        teach(mill, "", 3, 30);
        guessed(check, mill, "1", -1);
        guessed(check, mill, "", -1);
    }

    static void promise29_endingOf8Letters_and7(Check check) {
        AffixWorks mill = new AffixWorks();
        teach(mill, "01234567", 2, 1);
        guessed(check, mill, "01234567", 821);
        guessed(check, mill, "11234567", 721);
        guessed(check, mill, "1234567", 721);
    }

    static void promise29_endingIsNoLongerThanTheWordThatWasLearnt(Check check) {
        AffixWorks mill = new AffixWorks();
        teach(mill, "7", 2, 1);
        guessed(check, mill, "77777777", 121);
    }

    static void promise29_endingIsNoLongerThanTheWordThatIsTyped(Check check) {
        AffixWorks mill = new AffixWorks();
        teach(mill, "77777777", 2, 1);
        guessed(check, mill, "7", 121);
    }

    static void promise29_longestEndingAloneTells(Check check) {
        AffixWorks mill = new AffixWorks();
        teach(mill, "2", 0, 9);
        teach(mill, "12", 1, 8);
        teach(mill, "012", 5, 1);
        guessed(check, mill, "012", 351);
        guessed(check, mill, "112", 218);
        guessed(check, mill, "2", 109);
    }

    static void promise29_classOfMostByOne(Check check) {
        AffixWorks mill = new AffixWorks();
        teach(mill, "1", 0, 4);
        teach(mill, "1", 5, 5);
        guessed(check, mill, "1", 155);
        teach(mill, "1", 0, 2);
        guessed(check, mill, "1", 106);
    }

    static void promise29_ofSeveralTheLowestClass(Check check) {
        AffixWorks mill = new AffixWorks();
        teach(mill, "1", 5, 2);
        teach(mill, "1", 4, 2);
        guessed(check, mill, "1", 142);
        teach(mill, "1", 0, 2);
        guessed(check, mill, "1", 102);
        teach(mill, "1", 1, 2);
        guessed(check, mill, "1", 102);
    }

    static void promise29_classes0And5AreTold(Check check) {
        AffixWorks mill = new AffixWorks();
        teach(mill, "1", 0, 1);
        teach(mill, "2", 5, 1);
        guessed(check, mill, "1", 101);
        guessed(check, mill, "2", 151);
    }

    static void promise29_words8And9AreTold_10Are9(Check check) {
        int[] due = {158, 159, 159, 159};
        for (int more = 0; more < due.length; more++) {
            AffixWorks mill = new AffixWorks();
            teach(mill, "1", 5, 8 + more);
            guessed(check, mill, "1", due[more]);
        }
    }

    static void promise29_words30Are9(Check check) {
        AffixWorks mill = new AffixWorks();
        teach(mill, "1", 5, 30);
        guessed(check, mill, "1", 159);
    }

    /** Of 10 and 11 words the 11 are most, though both are told as 9. */
    static void promise29_mostAreCountedBeyond9(Check check) {
        AffixWorks mill = new AffixWorks();
        teach(mill, "1", 2, 10);
        teach(mill, "1", 3, 11);
        guessed(check, mill, "1", 139);
        teach(mill, "1", 2, 1);
        guessed(check, mill, "1", 129);
    }

    static void promise29_thirtyDifferentWords(Check check) {
        AffixWorks mill = new AffixWorks();
        for (int word = 0; word < 30; word++) {
            teach(mill, "" + word / 8 + word % 8, word % 6, 1);
        }
        guessed(check, mill, "35", 251);
        guessed(check, mill, "00", 201);
        // Words 6, 14 and 22 end in 6, of classes 0, 2 and 4.
        guessed(check, mill, "36", 101);
    }

    static void promise29_machinesAndLessonsStay(Check check) {
        AffixWorks mill = Bounds.withMachines(24);
        check.due("guess", 231, () -> mill.guess());
        check.due("guess again", 231, () -> mill.guess());
        check.due("machines", 24, () -> Mills.count(mill));
        check.due("lessons", 2, () -> mill.learn(0));
    }
}
