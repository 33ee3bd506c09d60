/** Promises 28 and 29: learn, guess. */
public final class GuessTest {
    private static final Check CHECK = new Check("GuessTest");

    public static void main(String[] args) {
        checkLearn();
        checkLearnRefuses();
        checkLongestEnding();
        checkMostAndLowest();
        checkManyOfAClass();
        checkEmptyWords();
        checkWholeWords();
        CHECK.end();
    }

    private static void teach(AffixWorks mill, String word, int kind) {
        Mills.retype(mill, word);
        mill.learn(kind);
    }

    private static void guessed(AffixWorks mill, String word, int due) {
        Mills.retype(mill, word);
        CHECK.due("guess of " + word, due, () -> mill.guess());
    }

    private static void checkLearn() {
        AffixWorks mill = Mills.typed("12");
        for (int lesson = 1; lesson <= 30; lesson++) {
            int kind = lesson % 6;
            CHECK.due("lesson " + lesson, lesson, () -> mill.learn(kind));
        }
        CHECK.due("the word stays", 2, () -> mill.clear());
    }

    private static void checkLearnRefuses() {
        AffixWorks mill = Mills.typed("4");
        int[] wrong = {-1, 6, 7, Integer.MAX_VALUE, Integer.MIN_VALUE};
        for (int kind : wrong) {
            CHECK.refused("learn(" + kind + ")", Check.ARGUMENT, () -> mill.learn(kind));
        }
        CHECK.due("nothing learnt by a wrong class", -1, () -> mill.guess());
        for (int lesson = 1; lesson <= 29; lesson++) {
            mill.learn(5);
        }
        CHECK.due("lesson 30", 30, () -> mill.learn(0));
        CHECK.refused("lesson 31", Check.STATE, () -> mill.learn(0));
        CHECK.refused("lesson 31 of a wrong class", Check.ARGUMENT, () -> mill.learn(6));
        CHECK.refused("lesson 31 of a class below 0", Check.ARGUMENT, () -> mill.learn(-1));
        guessed(mill, "4", 159);
    }

    private static void checkLongestEnding() {
        AffixWorks mill = new AffixWorks();
        teach(mill, "0123", 1);
        teach(mill, "4423", 2);
        teach(mill, "3", 3);
        teach(mill, "3", 3);
        guessed(mill, "5123", 311);
        guessed(mill, "0123", 411);
        guessed(mill, "70123", 411);
        guessed(mill, "123", 311);
        guessed(mill, "423", 321);
        guessed(mill, "23", 211);
        guessed(mill, "53", 132);
        guessed(mill, "3", 132);
        guessed(mill, "4", -1);
        guessed(mill, "0124", -1);
        guessed(mill, "30", -1);
        guessed(mill, "", -1);
    }

    private static void checkMostAndLowest() {
        AffixWorks mill = new AffixWorks();
        teach(mill, "17", 5);
        teach(mill, "27", 4);
        guessed(mill, "07", 141);
        teach(mill, "37", 5);
        guessed(mill, "07", 152);
        teach(mill, "47", 4);
        guessed(mill, "07", 142);
        teach(mill, "57", 0);
        guessed(mill, "07", 142);
        teach(mill, "67", 0);
        guessed(mill, "07", 102);
        guessed(mill, "17", 251);
        teach(mill, "17", 3);
        guessed(mill, "17", 231);
    }

    private static void checkManyOfAClass() {
        AffixWorks mill = new AffixWorks();
        for (int lesson = 1; lesson <= 12; lesson++) {
            teach(mill, "6", 5);
            guessed(mill, "6", 150 + Math.min(lesson, 9));
        }
        // Nine are told where there are more, but the class is that of most of them.
        for (int lesson = 1; lesson <= 11; lesson++) {
            teach(mill, "6", 1);
        }
        guessed(mill, "6", 159);
        teach(mill, "6", 1);
        guessed(mill, "6", 119);
    }

    private static void checkEmptyWords() {
        AffixWorks mill = new AffixWorks();
        teach(mill, "", 2);
        guessed(mill, "", -1);
        guessed(mill, "1", -1);
        teach(mill, "1", 4);
        guessed(mill, "1", 141);
        guessed(mill, "", -1);
        Mills.retype(mill, "");
        CHECK.due("an empty word counts", 3, () -> mill.learn(0));
    }

    private static void checkWholeWords() {
        AffixWorks mill = new AffixWorks();
        teach(mill, "01234567", 0);
        teach(mill, "71234567", 5);
        guessed(mill, "01234567", 801);
        guessed(mill, "71234567", 851);
        guessed(mill, "61234567", 701);
        mill.clear();
        CHECK.due("what was learnt stays behind clear", 3, () -> mill.learn(0));
    }
}
