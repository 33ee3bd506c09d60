/** Promise 28, its boundaries: classes 0 to 5, 30 words. */
public final class Promise28LearnTest {
    public static void main(String[] args) {
        Cases.run(Promise28LearnTest.class);
    }

    private static AffixWorks withLessons(int lessons) {
        AffixWorks mill = Mills.typed("12");
        for (int lesson = 0; lesson < lessons; lesson++) {
            mill.learn(4);
        }
        return mill;
    }

    static void promise28_kind0IsTaken_minus1IsRefused(Check check) {
        AffixWorks mill = Mills.typed("1");
        check.refusedUnchanged("learn(-1)", Check.ARGUMENT, mill, () -> mill.learn(-1));
        check.due("learn(0)", 1, () -> mill.learn(0));
        check.due("guess", 101, () -> mill.guess());
    }

    static void promise28_kind5IsTaken_6IsRefused(Check check) {
        AffixWorks mill = Mills.typed("1");
        check.refusedUnchanged("learn(6)", Check.ARGUMENT, mill, () -> mill.learn(6));
        check.due("learn(5)", 1, () -> mill.learn(5));
        check.due("guess", 151, () -> mill.guess());
    }

    static void promise28_kindsFarAwayAreRefused(Check check) {
        AffixWorks mill = Mills.typed("1");
        for (int kind : Bounds.FAR) {
            check.refusedUnchanged("learn(" + kind + ")", Check.ARGUMENT, mill, () -> mill.learn(kind));
        }
        check.due("the first that is learnt", 1, () -> mill.learn(0));
    }

    static void promise28_word30IsTaken_31IsRefused(Check check) {
        AffixWorks mill = withLessons(29);
        check.due("word 30", 30, () -> mill.learn(4));
        check.refusedUnchanged("word 31", Check.STATE, mill, () -> mill.learn(4));
        check.refusedUnchanged("word 31, again", Check.STATE, mill, () -> mill.learn(0));
    }

    static void promise28_outOfRangeGoesAheadOf30Words(Check check) {
        AffixWorks mill = withLessons(30);
        check.refusedUnchanged("learn(-1)", Check.ARGUMENT, mill, () -> mill.learn(-1));
        check.refusedUnchanged("learn(6)", Check.ARGUMENT, mill, () -> mill.learn(6));
        check.refusedUnchanged("learn(5)", Check.STATE, mill, () -> mill.learn(5));
    }

    static void promise28_eachWordCounts1To30(Check check) {
        AffixWorks mill = new AffixWorks();
        for (int lesson = 1; lesson <= 30; lesson++) {
            Mills.retype(mill, Integer.toOctalString(lesson));
            int kind = lesson % 6;
            check.due("word " + lesson, lesson, () -> mill.learn(kind));
        }
        // The last of them is 36 in octal, the first is 1.
        Mills.retype(mill, "36");
        check.due("the last one", 201, () -> mill.guess());
        Mills.retype(mill, "1");
        // In 1 end 1, 11, 21 and 31: the words 1, 9, 17 and 25, of classes 1, 3, 5 and 1.
        check.due("the first one and three others", 112, () -> mill.guess());
    }

    static void promise28_sameWordCountsEachTime(Check check) {
        AffixWorks mill = withLessons(2);
        check.due("a third time", 3, () -> mill.learn(4));
        check.due("of another class", 4, () -> mill.learn(3));
    }

    static void promise28_emptyWordCounts(Check check) {
        AffixWorks mill = new AffixWorks();
        check.due("the first", 1, () -> mill.learn(2));
        check.due("the second", 2, () -> mill.learn(2));
        check.due("guess", -1, () -> mill.guess());
    }

    static void promise28_wordOf8LettersIsLearntWhole(Check check) {
        AffixWorks mill = Mills.typed("01234567");
        mill.learn(5);
        check.due("guess", 851, () -> mill.guess());
        Mills.retype(mill, "11234567");
        check.due("guess of another first letter", 751, () -> mill.guess());
    }

    static void promise28_wordIsLearntAsItWas(Check check) {
        AffixWorks mill = Mills.typed("12");
        mill.learn(3);
        mill.type(7);
        check.due("guess behind another letter", -1, () -> mill.guess());
        Mills.retype(mill, "12");
        check.due("guess of the same word", 231, () -> mill.guess());
        check.same("the word", Mills.typedWord(mill), "12");
    }

    static void promise28_refusedCallChangesNothing(Check check) {
        AffixWorks mill = withLessons(29);
        check.refusedUnchanged("out of range", Check.ARGUMENT, mill, () -> mill.learn(6));
        check.due("the next is the 30th", 30, () -> mill.learn(4));
        Mills.retype(mill, "7");
        check.refusedUnchanged("a 31st", Check.STATE, mill, () -> mill.learn(0));
        check.due("it is not learnt", -1, () -> mill.guess());
    }
}
