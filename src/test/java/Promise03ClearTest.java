/** Promise 3, its boundaries: the word that is emptied has 0 to 8 letters. */
public final class Promise03ClearTest {
    public static void main(String[] args) {
        Cases.run(Promise03ClearTest.class);
    }

    static void promise03_emptyWordHad0(Check check) {
        AffixWorks mill = new AffixWorks();
        check.due("clear", 0, () -> mill.clear());
        check.due("clear again", 0, () -> mill.clear());
    }

    static void promise03_wordOf1Had1(Check check) {
        AffixWorks mill = Mills.typed("0");
        check.due("clear", 1, () -> mill.clear());
        check.due("clear again", 0, () -> mill.clear());
    }

    static void promise03_fullWordHad8(Check check) {
        AffixWorks mill = Mills.typed("01234567");
        check.due("clear", 8, () -> mill.clear());
        check.due("clear again", 0, () -> mill.clear());
        check.same("the word", Mills.typedWord(mill), "");
    }

    static void promise03_afterAFullWord8LettersAreTaken_9thIsRefused(Check check) {
        AffixWorks mill = Mills.typed("01234567");
        mill.clear();
        for (int length = 1; length <= 8; length++) {
            check.due("letter " + length, length, () -> mill.type(5));
        }
        check.refusedUnchanged("letter 9", Check.STATE, mill, () -> mill.type(5));
        check.same("the word", Mills.typedWord(mill), "55555555");
    }

    static void promise03_shorterWordHasNothingOfTheLonger(Check check) {
        AffixWorks mill = Mills.typed("01234567");
        mill.clear();
        mill.type(6);
        check.same("the word", Mills.typedWord(mill), "6");
        mill.word();
        check.shown("its machine", mill, 0, "2 [1] 0:6/6$0>1");
        check.due("clear", 1, () -> mill.clear());
    }

    static void promise03_machinesAndLessonsStay(Check check) {
        AffixWorks mill = Bounds.withMachines(24);
        mill.clear();
        check.due("machines", 24, () -> Mills.count(mill));
        Mills.retype(mill, "12");
        check.due("guess", 231, () -> mill.guess());
        check.due("lessons", 2, () -> mill.learn(0));
    }
}
