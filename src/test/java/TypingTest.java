/** Promises 2 and 3: type, clear. */
public final class TypingTest {
    private static final Check CHECK = new Check("TypingTest");

    public static void main(String[] args) {
        checkType();
        checkTypeRefuses();
        checkClear();
        CHECK.end();
    }

    private static void checkType() {
        AffixWorks mill = new AffixWorks();
        for (int letter = 0; letter < 8; letter++) {
            int typed = 7 - letter;
            CHECK.due("type(" + typed + ")", letter + 1, () -> mill.type(typed));
        }
        mill.word();
        CHECK.same("the letters stand in the order they were typed in", Mills.answers(mill, 0, false),
                "1: 76543210");
    }

    private static void checkTypeRefuses() {
        AffixWorks mill = new AffixWorks();
        int[] wrong = {-1, 8, 9, -2, Integer.MAX_VALUE, Integer.MIN_VALUE};
        for (int letter : wrong) {
            CHECK.refused("type(" + letter + ")", Check.ARGUMENT, () -> mill.type(letter));
        }
        CHECK.due("nothing typed by a wrong letter", 1, () -> mill.type(5));
        for (int length = 2; length <= 8; length++) {
            mill.type(5);
        }
        CHECK.refused("a ninth letter", Check.STATE, () -> mill.type(0));
        CHECK.refused("a wrong ninth letter", Check.ARGUMENT, () -> mill.type(8));
        CHECK.refused("a wrong ninth letter below 0", Check.ARGUMENT, () -> mill.type(-1));
        mill.word();
        CHECK.same("the word is as it was", Mills.answers(mill, 0, false), "1: 55555555");
        CHECK.due("8 letters still", 8, () -> mill.clear());
    }

    private static void checkClear() {
        AffixWorks mill = new AffixWorks();
        CHECK.due("clear of no letters", 0, () -> mill.clear());
        mill.type(1);
        mill.type(2);
        CHECK.due("clear of 2 letters", 2, () -> mill.clear());
        CHECK.due("clear again", 0, () -> mill.clear());
        CHECK.due("type behind clear", 1, () -> mill.type(7));
        mill.word();
        CHECK.same("only the new letter", Mills.answers(mill, 0, false), "1: 7");
        for (int length = 2; length <= 8; length++) {
            mill.type(0);
        }
        CHECK.due("clear of a full word", 8, () -> mill.clear());
        CHECK.due("machines stay", 2001, () -> mill.size(0));
    }
}
