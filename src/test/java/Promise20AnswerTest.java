/** Promise 20, its boundaries: answers 0 to 19, places, words of no letters and of many. */
public final class Promise20AnswerTest {
    private static final boolean DOWN = false;
    private static final boolean UP = true;

    public static void main(String[] args) {
        Cases.run(Promise20AnswerTest.class);
    }

    static void promise20_noMachineIsRefused(Check check) {
        Bounds.noMachineIsRefused(check, (mill, machine) -> mill.answer(machine, DOWN, 0, 0));
        Bounds.noMachineIsRefused(check, (mill, machine) -> mill.answer(machine, UP, 0, 0));
    }

    static void promise20_of3_0To2AreTaken_minus1And3AreRefused(Check check) {
        Bounds.machinesBesideAreRefused(check, (mill, machine) -> mill.answer(machine, DOWN, 0, 0));
        Bounds.machinesBesideAreRefused(check, (mill, machine) -> mill.answer(machine, UP, 0, 0));
    }

    static void promise20_of24_23IsTaken_24IsRefused(Check check) {
        Bounds.machine23IsTaken24Refused(check, (mill, machine) -> mill.answer(machine, DOWN, 0, 0));
    }

    static void promise20_answer0IsTaken_minus1IsRefused(Check check) {
        AffixWorks mill = Mills.typed("1");
        mill.word();
        for (boolean isUp : new boolean[] {DOWN, UP}) {
            check.refusedUnchanged("answer -1", Check.ARGUMENT, mill, () -> mill.answer(0, isUp, -1, 0));
            check.due("answer 0", 1, () -> mill.answer(0, isUp, 0, 0));
        }
    }

    static void promise20_answer19IsTaken_20IsRefused(Check check) {
        AffixWorks mill = new AffixWorks();
        int some = Bounds.answers16And(mill, 5);
        check.refusedUnchanged("answer 20 of 21", Check.ARGUMENT, mill, () -> mill.answer(some, DOWN, 20, 0));
        check.same("answer 19 of 21", Mills.answer(mill, some, DOWN, 19), "5555");
        int turned = mill.turn(some);
        check.refusedUnchanged("answer 20 up", Check.ARGUMENT, mill, () -> mill.answer(turned, UP, 20, 0));
        check.same("answer 19 up", Mills.answer(mill, turned, UP, 19), "5555");
    }

    static void promise20_answersFarAwayAreRefused(Check check) {
        AffixWorks mill = Mills.typed("1");
        mill.word();
        for (int answer : Bounds.FAR) {
            check.refusedUnchanged("answer " + answer, Check.ARGUMENT, mill,
                    () -> mill.answer(0, DOWN, answer, 0));
        }
    }

    static void promise20_place0IsTaken_minus1IsRefused(Check check) {
        AffixWorks mill = Mills.typed("12");
        mill.word();
        check.refusedUnchanged("place -1", Check.INDEX, mill, () -> mill.answer(0, DOWN, 0, -1));
        check.refusedUnchanged("place far below", Check.INDEX, mill,
                () -> mill.answer(0, UP, 0, Integer.MIN_VALUE));
        check.refusedUnchanged("place -1 of no answer", Check.INDEX, mill, () -> mill.answer(0, DOWN, 9, -1));
        check.due("place 0", 1, () -> mill.answer(0, DOWN, 0, 0));
    }

    static void promise20_placeBehindTheLastLetterIs8(Check check) {
        AffixWorks mill = Mills.typed("12");
        mill.word();
        check.due("the last letter", 2, () -> mill.answer(0, DOWN, 0, 1));
        check.due("behind it", 8, () -> mill.answer(0, DOWN, 0, 2));
        check.due("far behind it", 8, () -> mill.answer(0, DOWN, 0, 1000));
        check.due("as far as can be", 8, () -> mill.answer(0, UP, 0, Integer.MAX_VALUE));
    }

    static void promise20_answerBehindTheLastIsMinus1(Check check) {
        AffixWorks mill = Mills.typed("12");
        mill.word();
        check.due("answer 1 of 1", -1, () -> mill.answer(0, DOWN, 1, 0));
        check.due("answer 1 of 1, far behind", -1, () -> mill.answer(0, DOWN, 1, Integer.MAX_VALUE));
        check.due("answer 19 of 1", -1, () -> mill.answer(0, UP, 19, 0));
        Mills.retype(mill, "1");
        check.due("answer 0 of none", -1, () -> mill.answer(0, DOWN, 0, 0));
        check.due("answer 0 of none, up", -1, () -> mill.answer(0, UP, 0, 0));
    }

    static void promise20_of19Answers_18IsThere_19IsMinus1(Check check) {
        AffixWorks mill = new AffixWorks();
        int some = Bounds.answers16And(mill, 3);
        check.same("answer 18", Mills.answer(mill, some, DOWN, 18), "4444");
        check.same("answer 19", Mills.answer(mill, some, DOWN, 19), "none");
    }

    static void promise20_of20Answers_19IsThere(Check check) {
        AffixWorks mill = new AffixWorks();
        int some = Bounds.answers16And(mill, 4);
        check.same("answer 0", Mills.answer(mill, some, DOWN, 0), "0000");
        check.same("answer 15", Mills.answer(mill, some, DOWN, 15), "1111");
        check.same("answer 16", Mills.answer(mill, some, DOWN, 16), "2222");
        check.same("answer 19", Mills.answer(mill, some, DOWN, 19), "5555");
    }

    static void promise20_of256Answers_19IsThere(Check check) {
        AffixWorks mill = Mills.typed("00000000");
        mill.rule(0, 1, -1, -1, true);
        check.same("answer 0", Mills.answer(mill, 0, DOWN, 0), "00000000");
        check.same("answer 19", Mills.answer(mill, 0, DOWN, 19), "00010011");
        check.refusedUnchanged("answer 20", Check.ARGUMENT, mill, () -> mill.answer(0, DOWN, 20, 0));
    }

    static void promise20_noSuchMachineGoesAheadOfAnswer(Check check) {
        AffixWorks mill = Bounds.withMachines(1);
        check.refusedUnchanged("machine 1, answer 20", Check.INDEX, mill, () -> mill.answer(1, DOWN, 20, 0));
        check.refusedUnchanged("machine -1, answer -1", Check.INDEX, mill, () -> mill.answer(-1, UP, -1, 0));
    }

    static void promise20_placeBelow0GoesAheadOfAnswer(Check check) {
        AffixWorks mill = Bounds.withMachines(1);
        check.refusedUnchanged("place -1, answer 20", Check.INDEX, mill, () -> mill.answer(0, DOWN, 20, -1));
        check.refusedUnchanged("place -1, answer -1", Check.INDEX, mill, () -> mill.answer(0, UP, -1, -1));
    }

    static void promise20_emptyWordIsAnAnswerOf8(Check check) {
        AffixWorks mill = new AffixWorks();
        mill.word();
        check.due("its first letter", 8, () -> mill.answer(0, DOWN, 0, 0));
        check.due("its first letter, up", 8, () -> mill.answer(0, UP, 0, 0));
        check.due("the next answer", -1, () -> mill.answer(0, DOWN, 1, 0));
    }

    static void promise20_letterMayBecomeTheEmptyWord(Check check) {
        AffixWorks mill = Mills.typed("1");
        int away = mill.pair(1, 8, 0);
        int put = mill.pair(8, 1, 0);
        check.same("taken away", Mills.answers(mill, away, DOWN), "1: ");
        check.same("put, up", Mills.answers(mill, put, UP), "1: ");
        check.same("taken away, up", Mills.answers(mill, away, UP), "0:");
        mill.clear();
        check.same("taken away, of none", Mills.answers(mill, away, DOWN), "0:");
        check.same("put, of none", Mills.answers(mill, put, DOWN), "1: 1");
        check.same("taken away, up, of none", Mills.answers(mill, away, UP), "1: 1");
    }

    /** Of two words that begin by a letter that is put, each goes on in its own way. */
    static void promise20_answersHaveNothingOfThoseAhead(Check check) {
        AffixWorks mill = new AffixWorks();
        int first = mill.join(mill.pair(8, 0, 0), mill.pair(1, 2, 0));
        int second = mill.join(mill.pair(8, 5, 0), mill.pair(1, 3, 0));
        int words = mill.unite(first, second);
        Mills.retype(mill, "1");
        check.same("answers", Mills.answers(mill, words, DOWN), "2: 02 53");
    }

    /** What was reached by a letter that was taken away is not reached by the next call. */
    static void promise20_callsHaveNothingOfThoseAhead(Check check) {
        AffixWorks mill = new AffixWorks();
        int away = mill.pair(1, 8, 0);
        int put = mill.pair(8, 5, 0);
        int word = Mills.word(mill, "32");
        Mills.retype(mill, "1");
        check.same("taken away", Mills.answers(mill, away, DOWN), "1: ");
        Mills.retype(mill, "22");
        check.same("a word that differs", Mills.answers(mill, word, DOWN), "0:");
        check.due("its changes", 1, () -> mill.changes(word));
        check.same("mended", Mills.mended(mill, word), "32");
        mill.clear();
        check.same("put", Mills.answers(mill, put, DOWN), "1: 5");
        Mills.retype(mill, "32");
        check.same("the word", Mills.answers(mill, word, DOWN), "1: 32");
    }

    static void promise20_emptyAnswerIsAheadOfAllOthers(Check check) {
        AffixWorks mill = new AffixWorks();
        int words = mill.unite(mill.pair(1, 0, 0), mill.pair(1, 8, 0));
        Mills.retype(mill, "1");
        check.same("answers", Mills.answers(mill, words, DOWN), "2:  0");
    }

    static void promise20_wordIsAheadOfThoseThatGoOnBehindIt(Check check) {
        AffixWorks mill = new AffixWorks();
        int words = Bounds.answersThatGoOn(mill);
        int more = mill.unite(words, mill.pair(1, 1, 0));
        Mills.retype(mill, "1");
        check.same("answers", Mills.answers(mill, words, DOWN), "3: 0 00 000");
        check.same("answers, and one of a higher letter", Mills.answers(mill, more, DOWN), "4: 0 00 000 1");
    }

    static void promise20_answersOfAllCostsAreInOneOrder(Check check) {
        AffixWorks mill = new AffixWorks();
        int dear = mill.unite(mill.pair(1, 2, 100), mill.pair(1, 5, 1));
        int words = mill.unite(dear, mill.unite(mill.pair(1, 4, 0), mill.pair(3, 4, 50)));
        Mills.retype(mill, "1");
        check.same("down", Mills.answers(mill, words, DOWN), "3: 2 4 5");
        Mills.retype(mill, "4");
        check.same("up", Mills.answers(mill, words, UP), "2: 1 3");
    }

    static void promise20_wordThatIsRelatedBySeveralWaysIsOneAnswer(Check check) {
        AffixWorks mill = new AffixWorks();
        int pair = mill.pair(1, 2, 3);
        int both = mill.unite(pair, mill.pair(1, 2, 4));
        Mills.retype(mill, "1");
        check.same("answers", Mills.answers(mill, both, DOWN), "1: 2");
    }

    static void promise20_typedWordOf8Letters(Check check) {
        AffixWorks mill = Mills.typed("01234567");
        mill.word();
        check.same("answers", Mills.answers(mill, 0, DOWN), "1: 01234567");
        check.due("place 7", 7, () -> mill.answer(0, UP, 0, 7));
        check.due("place 8", 8, () -> mill.answer(0, UP, 0, 8));
    }

    static void promise20_answersMayHaveMoreThan8Letters(Check check) {
        AffixWorks mill = new AffixWorks();
        int put = mill.pair(8, 3, 0);
        int two = mill.join(put, put);
        int four = mill.join(two, two);
        int eight = mill.join(four, four);
        int nine = mill.join(eight, put);
        int sixteen = mill.join(eight, eight);
        check.same("9 letters for none", Mills.answers(mill, nine, DOWN), "1: 333333333");
        check.due("place 8 of 9", 3, () -> mill.answer(nine, DOWN, 0, 8));
        check.due("place 9 of 9", 8, () -> mill.answer(nine, DOWN, 0, 9));
        check.same("16 letters for none", Mills.answers(mill, sixteen, DOWN), "1: 3333333333333333");
        int turned = mill.turn(sixteen);
        check.same("16 letters up", Mills.answers(mill, turned, UP), "1: 3333333333333333");
        check.same("none the other way", Mills.answers(mill, sixteen, UP), "0:");
    }

    static void promise20_machineThatRelatesNothingHasNone(Check check) {
        AffixWorks mill = new AffixWorks();
        int nothing = Bounds.nothing(mill);
        check.due("down", -1, () -> mill.answer(nothing, DOWN, 0, 0));
        check.due("up", -1, () -> mill.answer(nothing, UP, 0, 0));
    }

    static void promise20_machineOf32StatesAnd160Arcs(Check check) {
        AffixWorks mill = new AffixWorks();
        int most = Bounds.states32Arcs160(mill);
        Mills.retype(mill, "44404444");
        check.same("in it", Mills.answers(mill, most, DOWN), "1: 44404444");
        Mills.retype(mill, "44440444");
        check.same("not in it", Mills.answers(mill, most, UP), "0:");
    }

    static void promise20_wordStays(Check check) {
        AffixWorks mill = Bounds.withMachines(1);
        mill.answer(0, DOWN, 0, 0);
        mill.answer(0, UP, 19, 99);
        check.same("the word", Mills.typedWord(mill), "12");
    }
}
