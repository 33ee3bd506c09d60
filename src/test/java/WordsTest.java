/** Promises 20 to 23: answer, answers, cost, best. */
public final class WordsTest {
    private static final boolean DOWN = false;
    private static final boolean UP = true;
    private static final int[] NOWHERE = {-1, 24, Integer.MAX_VALUE, Integer.MIN_VALUE};

    private static final Check CHECK = new Check("WordsTest");

    public static void main(String[] args) {
        checkAnswers();
        checkOrder();
        checkLengthsInOrder();
        checkMany();
        checkExactlyTwenty();
        checkLongAnswers();
        checkWaysOfNoLetters();
        checkEmptyWord();
        checkAnswerRefuses();
        checkCost();
        checkBest();
        checkBestOfWays();
        checkBestInOrder();
        checkNoSuchMachine();
        CHECK.end();
    }

    private static void answered(AffixWorks mill, int machine, boolean isUp, String due) {
        CHECK.same("answers of " + machine, Mills.answers(mill, machine, isUp), due);
    }

    private static void checkAnswers() {
        AffixWorks mill = new AffixWorks();
        int machine = mill.unite(mill.unite(mill.pair(1, 2, 3), mill.pair(1, 4, 0)), mill.pair(3, 2, 1));
        Mills.retype(mill, "1");
        answered(mill, machine, DOWN, "2: 2 4");
        answered(mill, machine, UP, "0:");
        Mills.retype(mill, "2");
        answered(mill, machine, DOWN, "0:");
        answered(mill, machine, UP, "2: 1 3");
        Mills.retype(mill, "11");
        answered(mill, machine, DOWN, "0:");
        Mills.retype(mill, "");
        answered(mill, machine, DOWN, "0:");
        Mills.retype(mill, "4");
        answered(mill, machine, UP, "1: 1");
        CHECK.due("behind the first letter", 8, () -> mill.answer(machine, UP, 0, 1));
        CHECK.due("far behind it", 8, () -> mill.answer(machine, UP, 0, Integer.MAX_VALUE));
        CHECK.due("no second answer", -1, () -> mill.answer(machine, UP, 1, 0));
        CHECK.due("no second answer at any place", -1, () -> mill.answer(machine, UP, 1, 9));
        CHECK.due("no answer 19", -1, () -> mill.answer(machine, UP, 19, 0));
        CHECK.due("no first answer", -1, () -> mill.answer(machine, DOWN, 0, 0));
        CHECK.due("the word stays", 1, () -> mill.clear());
    }

    private static void checkOrder() {
        AffixWorks mill = Mills.typed("11");
        int free = mill.rule(1, 2, -1, -1, true);
        answered(mill, free, DOWN, "4: 11 12 21 22");
        answered(mill, free, UP, "1: 11");
        Mills.retype(mill, "22");
        answered(mill, free, DOWN, "1: 22");
        answered(mill, free, UP, "4: 11 12 21 22");
        Mills.retype(mill, "3213");
        answered(mill, free, DOWN, "2: 3213 3223");
        // What is related by several ways is one answer.
        int both = mill.unite(free, free);
        answered(mill, both, DOWN, "2: 3213 3223");
    }

    private static void checkLengthsInOrder() {
        AffixWorks mill = new AffixWorks();
        int away = mill.pair(7, 8, 0);
        int zero = mill.pair(8, 0, 0);
        int one = mill.pair(8, 1, 0);
        int some = mill.unite(mill.join(zero, zero), mill.unite(one, mill.join(zero, mill.join(one, zero))));
        int words = mill.join(away, mill.unite(some, mill.unite(mill.word(), zero)));
        Mills.retype(mill, "7");
        answered(mill, words, DOWN, "5:  0 00 010 1");
        CHECK.due("the first answer has no letter", 8, () -> mill.answer(words, DOWN, 0, 0));
        CHECK.due("the second has one", 8, () -> mill.answer(words, DOWN, 1, 1));
    }

    private static void checkMany() {
        AffixWorks mill = Mills.typed("00000");
        int free = mill.rule(0, 7, -1, -1, true);
        CHECK.due("20 answers are told of 32", 20, () -> mill.answers(free, DOWN));
        for (int answer = 0; answer < 20; answer++) {
            StringBuilder due = new StringBuilder();
            for (int bit = 4; bit >= 0; bit--) {
                due.append((answer >> bit & 1) * 7);
            }
            CHECK.same("answer " + answer, Mills.answer(mill, free, DOWN, answer), due.toString());
        }
        Mills.retype(mill, "0000");
        CHECK.due("16 answers", 16, () -> mill.answers(free, DOWN));
        CHECK.same("answer 15", Mills.answer(mill, free, DOWN, 15), "7777");
        CHECK.same("answer 16", Mills.answer(mill, free, DOWN, 16), "none");
        Mills.retype(mill, "00000000");
        CHECK.same("answer 19 of 256", Mills.answer(mill, free, DOWN, 19), "00070077");
    }

    private static void checkExactlyTwenty() {
        AffixWorks mill = new AffixWorks();
        int free = mill.rule(0, 1, -1, -1, true);
        int away = mill.join(mill.pair(0, 2, 0), mill.pair(0, 2, 0));
        int four = mill.join(away, mill.compose(Mills.word(mill, "00"), free));
        int rows = mill.unite(free, four);
        Mills.retype(mill, "0000");
        CHECK.due("20 answers", 20, () -> mill.answers(rows, DOWN));
        CHECK.same("answer 15", Mills.answer(mill, rows, DOWN, 15), "1111");
        CHECK.same("answer 16", Mills.answer(mill, rows, DOWN, 16), "2200");
        CHECK.same("answer 19", Mills.answer(mill, rows, DOWN, 19), "2211");
        int more = mill.unite(rows, mill.compose(mill.word(), mill.rule(0, 6, -1, -1, false)));
        CHECK.due("20 answers of 21", 20, () -> mill.answers(more, DOWN));
        CHECK.same("answer 19 of 21", Mills.answer(mill, more, DOWN, 19), "2211");
        int fewer = mill.meet(mill.least(mill.side(rows, false)), mill.word(), false);
        int nineteen = mill.compose(rows, fewer);
        CHECK.due("19 answers", 19, () -> mill.answers(nineteen, DOWN));
        CHECK.same("answer 18", Mills.answer(mill, nineteen, DOWN, 18), "2211");
        CHECK.same("no answer 19", Mills.answer(mill, nineteen, DOWN, 19), "none");
    }

    /** One letter is typed and thirty are told for it, eight times. */
    private static void checkLongAnswers() {
        AffixWorks mill = new AffixWorks();
        int eight = Mills.word(mill, "22222222");
        int most = mill.least(mill.join(mill.least(mill.join(eight, eight)), eight));
        int row = mill.join(mill.pair(1, 1, 0), most);
        int rest = mill.least(mill.join(row, Mills.word(mill, "2222")));
        int cycle = mill.least(mill.repeat(mill.least(rest)));
        int one = mill.rule(2, 8, 1, -1, false);
        int two = mill.compose(one, one);
        int four = mill.compose(two, two);
        int eightAway = mill.compose(four, four);
        int some = mill.compose(mill.compose(cycle, eightAway), eightAway);
        int all = mill.compose(mill.compose(some, eightAway), four);
        CHECK.due("a cycle of 29 letters", 29029, () -> mill.size(all));
        Mills.retype(mill, "11111111");
        String due = "12222222222222222222222222222".repeat(8);
        CHECK.same("the only answer up", Mills.answers(mill, all, UP), "1: " + due);
        CHECK.same("the best answer up", Mills.best(mill, all, UP), due);
        CHECK.due("the last of its letters", 2, () -> mill.answer(all, UP, 0, 231));
        CHECK.due("behind the last", 8, () -> mill.answer(all, UP, 0, 232));
        int down = mill.turn(all);
        CHECK.same("the only answer down", Mills.answers(mill, down, DOWN), "1: " + due);
    }

    /** Several ways read letters and tell none; all of them go on. */
    private static void checkWaysOfNoLetters() {
        AffixWorks mill = new AffixWorks();
        int away = mill.pair(1, 8, 2);
        int three = mill.join(away, mill.pair(2, 3, 0));
        int four = mill.join(away, mill.pair(2, 4, 0));
        int five = mill.join(mill.pair(8, 8, 1), mill.join(away, mill.pair(2, 5, 0)));
        int ways = mill.unite(three, mill.unite(four, five));
        Mills.retype(mill, "12");
        answered(mill, ways, DOWN, "3: 3 4 5");
        CHECK.same("the first of the cheapest", Mills.best(mill, ways, DOWN), "3");
        Mills.retype(mill, "3");
        answered(mill, ways, UP, "1: 12");
        int turned = mill.turn(ways);
        Mills.retype(mill, "12");
        answered(mill, turned, UP, "3: 3 4 5");
    }

    private static void checkEmptyWord() {
        AffixWorks mill = new AffixWorks();
        int empty = mill.word();
        int idle = mill.pair(8, 8, 4);
        int put = mill.pair(8, 6, 5);
        answered(mill, empty, DOWN, "1: ");
        answered(mill, empty, UP, "1: ");
        answered(mill, idle, DOWN, "1: ");
        answered(mill, put, DOWN, "1: 6");
        answered(mill, put, UP, "0:");
        CHECK.due("the empty answer", 8, () -> mill.answer(empty, DOWN, 0, 0));
        CHECK.due("the best empty answer", 8, () -> mill.best(empty, DOWN, 0));
        CHECK.due("what it costs", 0, () -> mill.cost(empty, UP));
        CHECK.due("what an idle arc costs", 4, () -> mill.cost(idle, UP));
        CHECK.due("what a letter put in costs", 5, () -> mill.cost(put, DOWN));
        CHECK.due("no cost", -1, () -> mill.cost(put, UP));
        Mills.retype(mill, "6");
        answered(mill, put, UP, "1: ");
        answered(mill, put, DOWN, "0:");
    }

    private static void checkAnswerRefuses() {
        AffixWorks mill = Mills.typed("1");
        int any = mill.any();
        int[] wrong = {-1, 20, 21, Integer.MAX_VALUE, Integer.MIN_VALUE};
        for (int answer : wrong) {
            CHECK.refused("answer " + answer, Check.ARGUMENT, () -> mill.answer(any, DOWN, answer, 0));
            CHECK.refused("answer " + answer + " at no place", Check.INDEX,
                    () -> mill.answer(any, UP, answer, -1));
            CHECK.refused("answer " + answer + " of no machine", Check.INDEX,
                    () -> mill.answer(1, UP, answer, 0));
        }
        CHECK.due("answer 19", -1, () -> mill.answer(any, DOWN, 19, 0));
        CHECK.due("answer 0", 1, () -> mill.answer(any, DOWN, 0, 0));
    }

    private static void checkCost() {
        AffixWorks mill = Mills.typed("1");
        int cheap = mill.pair(1, 2, 3);
        int dear = mill.pair(1, 2, 9);
        int other = mill.pair(1, 3, 5);
        int all = mill.unite(mill.unite(dear, other), cheap);
        CHECK.due("cost", 9, () -> mill.cost(dear, DOWN));
        CHECK.due("least cost", 3, () -> mill.cost(all, DOWN));
        CHECK.due("no cost up", -1, () -> mill.cost(all, UP));
        Mills.retype(mill, "3");
        CHECK.due("cost up", 5, () -> mill.cost(all, UP));
        Mills.retype(mill, "2");
        CHECK.due("least cost up", 3, () -> mill.cost(all, UP));
        Mills.retype(mill, "11");
        CHECK.due("of two", 12, () -> mill.cost(mill.join(cheap, dear), DOWN));
        CHECK.due("of two of all", 6, () -> mill.cost(mill.join(all, all), DOWN));
        CHECK.due("of as many as are typed", 6, () -> mill.cost(mill.repeat(all), DOWN));
    }

    private static void checkBest() {
        AffixWorks mill = Mills.typed("1");
        int two = mill.pair(1, 2, 5);
        int three = mill.pair(1, 3, 4);
        int all = mill.unite(two, three);
        CHECK.same("the cheapest", Mills.best(mill, all, DOWN), "3");
        CHECK.same("all", Mills.answers(mill, all, DOWN), "2: 2 3");
        int same = mill.unite(three, mill.pair(1, 2, 4));
        CHECK.same("the first of the cheapest", Mills.best(mill, same, DOWN), "2");
        CHECK.due("behind it", 8, () -> mill.best(same, DOWN, 1));
        CHECK.due("far behind it", 8, () -> mill.best(same, DOWN, Integer.MAX_VALUE));
        CHECK.due("none up", -1, () -> mill.best(same, UP, 0));
        CHECK.due("none up at any place", -1, () -> mill.best(same, UP, 7));
        Mills.retype(mill, "3");
        CHECK.same("the only one up", Mills.best(mill, all, UP), "1");
        Mills.retype(mill, "111");
        CHECK.same("letter by letter", Mills.best(mill, mill.repeat(all), DOWN), "333");
        CHECK.due("what they cost", 12, () -> mill.cost(mill.repeat(all), DOWN));
    }

    /** Of a word that is related by two ways the cheaper one counts. */
    private static void checkBestOfWays() {
        AffixWorks mill = Mills.typed("1");
        int dear = mill.pair(1, 5, 9);
        int cheap = mill.pair(1, 5, 1);
        int between = mill.pair(1, 4, 5);
        int all = mill.unite(dear, mill.unite(between, cheap));
        CHECK.same("the cheaper way", Mills.best(mill, all, DOWN), "5");
        CHECK.same("both words", Mills.answers(mill, all, DOWN), "2: 4 5");
        // A way that begins cheaply and ends dearly.
        Mills.retype(mill, "12");
        int first = mill.join(mill.pair(1, 0, 1), mill.pair(2, 0, 50));
        int second = mill.join(mill.pair(1, 0, 20), mill.pair(2, 1, 20));
        int third = mill.join(mill.pair(1, 6, 30), mill.pair(2, 6, 9));
        int ways = mill.unite(first, mill.unite(second, third));
        CHECK.same("the cheapest as a whole", Mills.best(mill, ways, DOWN), "66");
        CHECK.due("its cost", 39, () -> mill.cost(ways, DOWN));
    }

    private static void checkBestInOrder() {
        AffixWorks mill = Mills.typed("1");
        int away = mill.pair(1, 8, 2);
        int dearAway = mill.join(mill.pair(1, 8, 1), mill.pair(8, 0, 1));
        int both = mill.unite(dearAway, away);
        CHECK.same("a word ahead of those that go on", Mills.best(mill, both, DOWN), "");
        CHECK.due("of no letters", 8, () -> mill.best(both, DOWN, 0));
        int cheaper = mill.unite(mill.join(mill.pair(1, 8, 0), mill.pair(8, 0, 1)), away);
        CHECK.same("but a cheaper one first", Mills.best(mill, cheaper, DOWN), "0");
        int free = mill.rule(1, 0, -1, -1, true);
        Mills.retype(mill, "11111111");
        CHECK.same("of 256 the first", Mills.best(mill, free, DOWN), "00000000");
    }

    private static void checkNoSuchMachine() {
        AffixWorks mill = Mills.typed("1");
        int any = mill.any();
        for (int machine : NOWHERE) {
            CHECK.refused("answer of " + machine, Check.INDEX, () -> mill.answer(machine, UP, 0, 0));
            CHECK.refused("answers of " + machine, Check.INDEX, () -> mill.answers(machine, DOWN));
            CHECK.refused("cost of " + machine, Check.INDEX, () -> mill.cost(machine, DOWN));
            CHECK.refused("best of " + machine, Check.INDEX, () -> mill.best(machine, DOWN, 0));
        }
        CHECK.refused("answers of 1", Check.INDEX, () -> mill.answers(1, DOWN));
        CHECK.refused("cost of 1", Check.INDEX, () -> mill.cost(1, UP));
        CHECK.refused("best of 1", Check.INDEX, () -> mill.best(1, DOWN, 0));
        int[] places = {-1, Integer.MIN_VALUE};
        for (int place : places) {
            CHECK.refused("answer at " + place, Check.INDEX, () -> mill.answer(any, UP, 0, place));
            CHECK.refused("no answer at " + place, Check.INDEX, () -> mill.answer(any, UP, 9, place));
            CHECK.refused("best at " + place, Check.INDEX, () -> mill.best(any, UP, place));
        }
        Mills.retype(mill, "11");
        CHECK.refused("no best at -1", Check.INDEX, () -> mill.best(any, UP, -1));
    }
}
