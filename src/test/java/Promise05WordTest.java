/** Promise 5, its boundaries: a word of 0 to 8 letters, which stays; 24 machines. */
public final class Promise05WordTest {
    public static void main(String[] args) {
        Cases.run(Promise05WordTest.class);
    }

    static void promise05_emptyWordIsOneStateThatIsAnEnd(Check check) {
        AffixWorks mill = new AffixWorks();
        check.due("word", 0, () -> mill.word());
        check.shown("it", mill, 0, "1 [0]");
        check.same("what it relates the empty word to", Mills.answers(mill, 0, false), "1: ");
        mill.type(0);
        check.same("what it relates a letter to", Mills.answers(mill, 0, false), "0:");
    }

    static void promise05_wordOf1LetterHasOneArc(Check check) {
        AffixWorks mill = Mills.typed("7");
        check.due("word", 0, () -> mill.word());
        check.shown("it", mill, 0, "2 [1] 0:7/7$0>1");
    }

    static void promise05_wordOf8LettersHas9States(Check check) {
        AffixWorks mill = Mills.typed("70707070");
        check.due("word", 0, () -> mill.word());
        check.shown("it", mill, 0, "9 [8] 0:7/7$0>1 1:0/0$0>2 2:7/7$0>3 3:0/0$0>4 4:7/7$0>5"
                + " 5:0/0$0>6 6:7/7$0>7 7:0/0$0>8");
        check.same("what it relates it to", Mills.answers(mill, 0, false), "1: 70707070");
    }

    static void promise05_letter9IsNotOfTheWord(Check check) {
        AffixWorks mill = Mills.typed("11111111");
        check.refusedUnchanged("a ninth letter", Check.STATE, mill, () -> mill.type(2));
        mill.word();
        check.due("states and arcs", 9008, () -> mill.size(0));
        check.same("what it relates it to", Mills.answers(mill, 0, false), "1: 11111111");
    }

    static void promise05_wordStays(Check check) {
        for (String word : new String[] {"", "3", "01234567"}) {
            AffixWorks mill = Mills.typed(word);
            mill.word();
            check.same("the word", Mills.typedWord(mill), word);
            check.due("the same word makes another machine", 1, () -> mill.word());
            check.same("which is the same", Mills.show(mill, 1), Mills.show(mill, 0));
            check.due("clear", word.length(), () -> mill.clear());
        }
    }

    static void promise05_machineStaysAsTheWordWas(Check check) {
        AffixWorks mill = Mills.typed("12");
        mill.word();
        mill.type(3);
        check.shown("behind another letter", mill, 0, "3 [2] 0:1/1$0>1 1:2/2$0>2");
        Mills.retype(mill, "76543210");
        check.shown("behind another word", mill, 0, "3 [2] 0:1/1$0>1 1:2/2$0>2");
    }

    static void promise05_machines24AreTaken_25thIsRefused(Check check) {
        Bounds.machines24AreTaken25thRefused(check, mill -> mill.word());
    }

    static void promise05_refusedCallChangesNothing(Check check) {
        AffixWorks mill = Bounds.withMachines(24);
        check.refusedUnchanged("a 25th", Check.STATE, mill, () -> mill.word());
        check.same("the word", Mills.typedWord(mill), "12");
        check.due("states and arcs of the 24th", 2008, () -> mill.size(23));
    }
}
