/** Promises 24 to 27: changes, mended, apart, ruled. */
public final class MendingTest {
    private static final Check CHECK = new Check("MendingTest");

    public static void main(String[] args) {
        checkChanges();
        checkSeveralWords();
        checkUpperWords();
        checkEndless();
        checkFarWords();
        checkMendingRefuses();
        checkApart();
        checkApartFarAway();
        checkApartRefuses();
        checkApartSets();
        checkRuled();
        checkRuledSides();
        checkRuledRefuses();
        CHECK.end();
    }

    /** Types a word, and asks how it is mended; due is none, or the changes and the word. */
    private static void mends(AffixWorks mill, int machine, String typed, String due) {
        Mills.retype(mill, typed);
        CHECK.same("mending " + typed + " by " + machine,
                mill.changes(machine) + " " + Mills.mended(mill, machine), due);
    }

    private static void checkChanges() {
        AffixWorks mill = new AffixWorks();
        int word = Mills.word(mill, "123");
        mends(mill, word, "123", "0 123");
        mends(mill, word, "", "3 123");
        mends(mill, word, "12", "1 123");
        mends(mill, word, "13", "1 123");
        mends(mill, word, "23", "1 123");
        mends(mill, word, "1123", "1 123");
        mends(mill, word, "1203", "1 123");
        mends(mill, word, "1230", "1 123");
        mends(mill, word, "153", "1 123");
        mends(mill, word, "321", "2 123");
        mends(mill, word, "231", "2 123");
        mends(mill, word, "0000", "4 123");
        mends(mill, word, "00000000", "8 123");
        mends(mill, word, "01020300", "5 123");
        CHECK.due("behind its letters", 8, () -> mill.mended(word, 3));
        CHECK.due("far behind them", 8, () -> mill.mended(word, Integer.MAX_VALUE));
        CHECK.due("the word stays", 8, () -> mill.clear());
    }

    private static void checkSeveralWords() {
        AffixWorks mill = new AffixWorks();
        int words = mill.unite(Mills.word(mill, "10"), mill.unite(Mills.word(mill, "01"), Mills.word(mill, "7")));
        mends(mill, words, "", "1 7");
        mends(mill, words, "00", "1 01");
        mends(mill, words, "11", "1 01");
        mends(mill, words, "1", "1 01");
        mends(mill, words, "10", "0 10");
        mends(mill, words, "77", "1 7");
        mends(mill, words, "3", "1 7");
        mends(mill, words, "33", "2 01");
        int shorter = mill.unite(mill.unite(Mills.word(mill, "2"), Mills.word(mill, "")), Mills.word(mill, "23"));
        mends(mill, shorter, "1", "1 ");
        mends(mill, shorter, "3", "1 ");
        mends(mill, shorter, "11", "2 ");
        mends(mill, shorter, "21", "1 2");
        mends(mill, shorter, "223", "1 23");
        Mills.retype(mill, "1");
        CHECK.due("mended by leaving it out", 8, () -> mill.mended(shorter, 0));
        // The first letter is left out ahead of several words.
        int three = Mills.word(mill, "03");
        int four = Mills.word(mill, "04");
        mends(mill, mill.unite(three, four), "702", "2 03");
        mends(mill, mill.unite(four, three), "702", "2 03");
        mends(mill, mill.unite(four, three), "704", "1 04");
    }

    /** Lower letters and costs do not matter. */
    private static void checkUpperWords() {
        AffixWorks mill = new AffixWorks();
        int pair = mill.pair(1, 2, 100);
        mends(mill, pair, "1", "0 1");
        mends(mill, pair, "2", "1 1");
        int put = mill.pair(8, 5, 3);
        mends(mill, put, "", "0 ");
        mends(mill, put, "5", "1 ");
        mends(mill, put, "12", "2 ");
        int ways = mill.unite(mill.pair(4, 8, 0), mill.unite(mill.pair(3, 3, 90), mill.pair(8, 8, 50)));
        mends(mill, ways, "1", "1 ");
        mends(mill, ways, "4", "0 4");
        mends(mill, ways, "33", "1 3");
        mends(mill, mill.join(put, mill.join(ways, put)), "3", "0 3");
        int nothing = mill.compose(pair, pair);
        mends(mill, nothing, "", "-1 none");
        mends(mill, nothing, "12", "-1 none");
        CHECK.due("none at any place", -1, () -> mill.mended(nothing, 9));
    }

    private static void checkEndless() {
        AffixWorks mill = new AffixWorks();
        int any = mill.repeat(mill.any());
        mends(mill, any, "76543210", "0 76543210");
        mends(mill, any, "", "0 ");
        int pairs = mill.repeat(Mills.word(mill, "00"));
        mends(mill, pairs, "000", "1 00");
        mends(mill, pairs, "0000", "0 0000");
        mends(mill, pairs, "010", "1 00");
        mends(mill, pairs, "0110", "2 00");
        mends(mill, pairs, "1", "1 ");
        int odd = mill.join(pairs, Mills.word(mill, "0"));
        mends(mill, odd, "00", "1 0");
        mends(mill, odd, "00000000", "1 0000000");
        mends(mill, odd, "", "1 0");
        mends(mill, mill.join(any, Mills.word(mill, "3")), "1254", "1 1253");
    }

    private static void checkFarWords() {
        AffixWorks mill = new AffixWorks();
        int eight = Mills.word(mill, "01234567");
        int many = mill.join(eight, mill.join(eight, mill.join(eight, Mills.word(mill, "0123"))));
        String word = "0123456701234567012345670123";
        mends(mill, many, "", "28 " + word);
        mends(mill, many, "77777777", "25 " + word);
        mends(mill, many, "30303030", "22 " + word);
    }

    private static void checkMendingRefuses() {
        AffixWorks mill = Mills.typed("1");
        int any = mill.any();
        int[] wrong = {-1, 1, 24, Integer.MAX_VALUE, Integer.MIN_VALUE};
        for (int machine : wrong) {
            CHECK.refused("changes by " + machine, Check.INDEX, () -> mill.changes(machine));
            CHECK.refused("mended by " + machine, Check.INDEX, () -> mill.mended(machine, 0));
        }
        CHECK.refused("mended at -1", Check.INDEX, () -> mill.mended(any, -1));
        CHECK.refused("mended at the least", Check.INDEX, () -> mill.mended(any, Integer.MIN_VALUE));
    }

    private static void told(AffixWorks mill, int first, int second, String due) {
        CHECK.same(first + " apart from " + second, Mills.apart(mill, first, second), due);
        CHECK.same(second + " apart from " + first, Mills.apart(mill, second, first), due);
    }

    private static void checkApart() {
        AffixWorks mill = new AffixWorks();
        int one = Mills.word(mill, "1");
        int two = Mills.word(mill, "2");
        int empty = Mills.word(mill, "");
        int nothing = mill.meet(one, two, true);
        told(mill, one, one, "none");
        told(mill, one, two, "1");
        told(mill, one, empty, "");
        told(mill, nothing, one, "1");
        told(mill, nothing, empty, "");
        told(mill, nothing, nothing, "none");
        int both = mill.unite(two, one);
        told(mill, one, both, "2");
        told(mill, both, mill.unite(one, two), "none");
        int all = mill.repeat(mill.any());
        told(mill, all, empty, "0");
        told(mill, all, mill.least(all), "none");
        told(mill, all, nothing, "");
        int longer = Mills.word(mill, "03");
        told(mill, longer, one, "1");
        told(mill, mill.unite(longer, one), mill.unite(one, Mills.word(mill, "02")), "02");
        told(mill, mill.unite(longer, one), one, "03");
        CHECK.due("behind its letters", 8, () -> mill.apart(longer, one, 1));
        CHECK.due("far behind them", 8, () -> mill.apart(longer, one, Integer.MAX_VALUE));
        CHECK.due("behind no letters", 8, () -> mill.apart(all, nothing, Integer.MAX_VALUE));
        CHECK.due("none at any place", -1, () -> mill.apart(one, one, 100));
    }

    private static void checkApartFarAway() {
        AffixWorks mill = new AffixWorks();
        int eight = Mills.word(mill, "01234567");
        int many = mill.join(eight, mill.join(eight, eight));
        int more = mill.join(many, Mills.word(mill, "12"));
        int some = mill.join(many, Mills.word(mill, "13"));
        String word = "012345670123456701234567";
        told(mill, many, more, word);
        told(mill, more, some, word + "12");
        CHECK.due("its last letter", 2, () -> mill.apart(some, more, 25));
        CHECK.due("behind it", 8, () -> mill.apart(some, more, 26));
    }

    private static void checkApartRefuses() {
        AffixWorks mill = new AffixWorks();
        int plain = mill.any();
        int[] unlike = {
            mill.pair(1, 2, 0), mill.pair(1, 1, 1), mill.pair(8, 8, 1), mill.pair(1, 8, 0),
        };
        for (int machine : unlike) {
            CHECK.refused("apart from unlike " + machine, Check.STATE, () -> mill.apart(plain, machine, 0));
            CHECK.refused("unlike apart " + machine, Check.STATE, () -> mill.apart(machine, plain, 0));
            CHECK.refused("unlike at -1", Check.INDEX, () -> mill.apart(machine, plain, -1));
            CHECK.refused("unlike from none", Check.INDEX, () -> mill.apart(machine, 5, 0));
        }
        int[] wrong = {-1, 5, 24, Integer.MAX_VALUE, Integer.MIN_VALUE};
        for (int machine : wrong) {
            CHECK.refused("apart from " + machine, Check.INDEX, () -> mill.apart(plain, machine, 0));
            CHECK.refused(machine + " apart", Check.INDEX, () -> mill.apart(machine, plain, 0));
        }
        CHECK.refused("apart at -1", Check.INDEX, () -> mill.apart(plain, plain, -1));
        CHECK.refused("apart at the least", Check.INDEX,
                () -> mill.apart(plain, plain, Integer.MIN_VALUE));
    }

    /** Cycles of 8 and of 25 letters have 200 pairs of sets; one of 8 that is not least has 201. */
    private static void checkApartSets() {
        AffixWorks mill = new AffixWorks();
        int eight = Mills.word(mill, "00000000");
        int many = mill.join(eight, mill.join(eight, mill.join(eight, Mills.word(mill, "0"))));
        int raw = mill.repeat(eight);
        int first = mill.least(raw);
        int second = mill.least(mill.repeat(many));
        CHECK.due("a cycle of 25", 25025, () -> mill.size(second));
        told(mill, first, second, "00000000");
        CHECK.refused("201 pairs", Check.STATE, () -> mill.apart(raw, second, 0));
        CHECK.refused("201 pairs, the other way", Check.STATE, () -> mill.apart(second, raw, 9));
        // Pairs where one set is empty count too.
        int one = mill.unite(first, Mills.word(mill, "1"));
        CHECK.refused("more than 200 pairs", Check.STATE, () -> mill.apart(one, second, 0));
        told(mill, raw, first, "none");
    }

    private static void rules(AffixWorks mill, String word, int[] rule, String due) {
        Mills.retype(mill, word);
        CHECK.same("ruled " + word + " by " + java.util.Arrays.toString(rule),
                Mills.ruled(mill, rule[0], rule[1], rule[2], rule[3]), due);
    }

    private static void checkRuled() {
        AffixWorks mill = new AffixWorks();
        rules(mill, "1131", new int[] {1, 2, -1, -1}, "2232");
        rules(mill, "", new int[] {1, 2, -1, -1}, "");
        rules(mill, "345", new int[] {1, 2, -1, -1}, "345");
        rules(mill, "1131", new int[] {1, 8, -1, -1}, "3");
        rules(mill, "1111", new int[] {1, 8, -1, -1}, "");
        rules(mill, "01234567", new int[] {7, 0, -1, -1}, "01234560");
        rules(mill, "1111", new int[] {1, 1, 1, 1}, "1111");
        CHECK.due("behind its letters", 8, () -> mill.ruled(1, 2, -1, -1, 4));
        CHECK.due("far behind them", 8, () -> mill.ruled(1, 2, -1, -1, Integer.MAX_VALUE));
        CHECK.due("the word stays", 4, () -> mill.clear());
        CHECK.refused("no machine is made", Check.INDEX, () -> mill.size(0));
    }

    private static void checkRuledSides() {
        AffixWorks mill = new AffixWorks();
        rules(mill, "13110131", new int[] {1, 2, 3, -1}, "13210132");
        rules(mill, "13110131", new int[] {1, 2, -1, 3}, "23110231");
        rules(mill, "31131031", new int[] {1, 2, 3, 1}, "32131031");
        rules(mill, "3130", new int[] {1, 8, 3, 3}, "330");
        rules(mill, "1", new int[] {1, 2, 3, -1}, "1");
        rules(mill, "1", new int[] {1, 2, -1, 3}, "1");
        rules(mill, "31", new int[] {1, 2, 3, -1}, "32");
        rules(mill, "13", new int[] {1, 2, -1, 3}, "23");
        // The letters beside it are those of the upper word.
        rules(mill, "1111", new int[] {1, 2, 1, -1}, "1222");
        rules(mill, "1111", new int[] {1, 2, -1, 1}, "2221");
        rules(mill, "1111", new int[] {1, 2, 1, 1}, "1221");
        rules(mill, "1111", new int[] {1, 8, 1, -1}, "1");
        rules(mill, "2121", new int[] {1, 2, 2, -1}, "2222");
        rules(mill, "0000", new int[] {0, 8, -1, 0}, "0");
        rules(mill, "0707", new int[] {0, 7, 7, 7}, "0777");
        rules(mill, "7070", new int[] {7, 0, 0, 0}, "7000");
    }

    private static void checkRuledRefuses() {
        AffixWorks mill = Mills.typed("12");
        int[][] wrong = {
            {-1, 0, 0, 0}, {8, 0, 0, 0}, {0, -1, 0, 0}, {0, 9, 0, 0}, {0, 0, -2, 0}, {0, 0, 8, 0},
            {0, 0, 0, -2}, {0, 0, 0, 8}, {Integer.MIN_VALUE, 0, 0, 0}, {0, 0, Integer.MAX_VALUE, 0},
        };
        for (int[] rule : wrong) {
            String told = java.util.Arrays.toString(rule);
            CHECK.refused("ruled " + told, Check.ARGUMENT,
                    () -> mill.ruled(rule[0], rule[1], rule[2], rule[3], 0));
            CHECK.refused("ruled at 99 " + told, Check.ARGUMENT,
                    () -> mill.ruled(rule[0], rule[1], rule[2], rule[3], 99));
            CHECK.refused("ruled at -1 " + told, Check.INDEX,
                    () -> mill.ruled(rule[0], rule[1], rule[2], rule[3], -1));
        }
        CHECK.refused("ruled at -1", Check.INDEX, () -> mill.ruled(1, 2, 3, 4, -1));
        CHECK.refused("ruled at the least", Check.INDEX,
                () -> mill.ruled(1, 2, 3, 4, Integer.MIN_VALUE));
        mill.clear();
        CHECK.refused("a wrong rule for no letters", Check.ARGUMENT, () -> mill.ruled(8, 2, 3, 4, 0));
        CHECK.refused("no place for no letters", Check.INDEX, () -> mill.ruled(1, 2, 3, 4, -1));
    }
}
