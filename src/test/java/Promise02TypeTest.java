/** Promise 2, its boundaries: letters 0 to 7, words of up to 8 letters. */
public final class Promise02TypeTest {
    public static void main(String[] args) {
        Cases.run(Promise02TypeTest.class);
    }

    static void promise02_letter0IsTaken_minus1IsRefused(Check check) {
        AffixWorks mill = new AffixWorks();
        check.refusedUnchanged("type(-1)", Check.ARGUMENT, mill, () -> mill.type(-1));
        check.due("type(0)", 1, () -> mill.type(0));
        check.same("the word", Mills.typedWord(mill), "0");
    }

    static void promise02_letter7IsTaken_8IsRefused(Check check) {
        AffixWorks mill = new AffixWorks();
        check.refusedUnchanged("type(8)", Check.ARGUMENT, mill, () -> mill.type(8));
        check.refusedUnchanged("type(EMPTY)", Check.ARGUMENT, mill, () -> mill.type(AffixWorks.EMPTY));
        check.due("type(7)", 1, () -> mill.type(7));
        check.same("the word", Mills.typedWord(mill), "7");
    }

    static void promise02_lettersFarAwayAreRefused(Check check) {
        AffixWorks mill = Mills.typed("3");
        for (int letter : new int[] {9, 16, 256, -8, Integer.MAX_VALUE, Integer.MIN_VALUE}) {
            check.refusedUnchanged("type(" + letter + ")", Check.ARGUMENT, mill, () -> mill.type(letter));
        }
    }

    static void promise02_eachLetterStandsAtTheEnd(Check check) {
        AffixWorks mill = new AffixWorks();
        for (int letter = 7; letter >= 0; letter--) {
            int typed = letter;
            check.due("type(" + typed + ")", 8 - typed, () -> mill.type(typed));
        }
        check.same("the word", Mills.typedWord(mill), "76543210");
    }

    static void promise02_letter8OfAWordIsTaken_9thIsRefused(Check check) {
        AffixWorks mill = Mills.typed("1234567");
        check.due("the eighth", 8, () -> mill.type(0));
        check.refusedUnchanged("the ninth", Check.STATE, mill, () -> mill.type(0));
        check.refusedUnchanged("the ninth, again", Check.STATE, mill, () -> mill.type(7));
        check.same("the word", Mills.typedWord(mill), "12345670");
    }

    static void promise02_outOfRangeGoesAheadOfAFullWord(Check check) {
        AffixWorks mill = Mills.typed("12345670");
        check.refusedUnchanged("a ninth -1", Check.ARGUMENT, mill, () -> mill.type(-1));
        check.refusedUnchanged("a ninth 8", Check.ARGUMENT, mill, () -> mill.type(8));
    }

    static void promise02_refusedCallChangesNothing(Check check) {
        AffixWorks mill = Bounds.withMachines(2);
        check.refusedUnchanged("a wrong letter", Check.ARGUMENT, mill, () -> mill.type(8));
        check.due("the next letter is the third", 3, () -> mill.type(4));
        Mills.retype(mill, "76543210");
        check.refusedUnchanged("a ninth letter", Check.STATE, mill, () -> mill.type(4));
        check.due("all letters are there", 8, () -> mill.clear());
        check.due("none were learnt", 2, () -> mill.learn(0));
    }
}
