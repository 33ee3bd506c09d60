import java.util.Arrays;

/** Promise 27, its boundaries: letters, any and empty ones, places, words of 0 to 8 letters. */
public final class Promise27RuledTest {
    public static void main(String[] args) {
        Cases.run(Promise27RuledTest.class);
    }

    private static void refused(Check check, String exception, int f, int t, int l, int r, int place) {
        AffixWorks mill = Mills.typed("1231");
        check.refusedUnchanged("ruled " + Arrays.toString(new int[] {f, t, l, r, place}), exception,
                mill, () -> mill.ruled(f, t, l, r, place));
    }

    private static void makes(Check check, int[] rule, String word, String due) {
        AffixWorks mill = Mills.typed(word);
        check.same(Arrays.toString(rule) + " of " + word,
                Mills.ruled(mill, rule[0], rule[1], rule[2], rule[3]), due);
        check.same("the word behind it", Mills.typedWord(mill), word);
        check.due("machines behind it", 0, () -> Mills.count(mill));
    }

    static void promise27_f0IsTaken_minus1IsRefused(Check check) {
        refused(check, Check.ARGUMENT, -1, 1, 2, 3, 0);
        makes(check, new int[] {0, 1, 2, 3}, "203", "213");
    }

    static void promise27_f7IsTaken_8IsRefused(Check check) {
        refused(check, Check.ARGUMENT, 8, 1, 2, 3, 0);
        makes(check, new int[] {7, 1, 2, 3}, "273", "213");
    }

    static void promise27_t0IsTaken_minus1IsRefused(Check check) {
        refused(check, Check.ARGUMENT, 1, -1, 2, 3, 0);
        makes(check, new int[] {1, 0, 2, 3}, "213", "203");
    }

    static void promise27_t8IsTaken_9IsRefused(Check check) {
        refused(check, Check.ARGUMENT, 1, 9, 2, 3, 0);
        makes(check, new int[] {1, 8, 2, 3}, "213", "23");
        makes(check, new int[] {1, 7, 2, 3}, "213", "273");
    }

    static void promise27_lMinus1IsTaken_minus2IsRefused(Check check) {
        refused(check, Check.ARGUMENT, 1, 2, -2, 3, 0);
        makes(check, new int[] {1, 2, -1, 3}, "13", "23");
        makes(check, new int[] {1, 2, 0, 3}, "013", "023");
    }

    static void promise27_l7IsTaken_8IsRefused(Check check) {
        refused(check, Check.ARGUMENT, 1, 2, 8, 3, 0);
        makes(check, new int[] {1, 2, 7, 3}, "713", "723");
    }

    static void promise27_rMinus1IsTaken_minus2IsRefused(Check check) {
        refused(check, Check.ARGUMENT, 1, 2, 3, -2, 0);
        makes(check, new int[] {1, 2, 3, -1}, "31", "32");
        makes(check, new int[] {1, 2, 3, 0}, "310", "320");
    }

    static void promise27_r7IsTaken_8IsRefused(Check check) {
        refused(check, Check.ARGUMENT, 1, 2, 3, 8, 0);
        makes(check, new int[] {1, 2, 3, 7}, "317", "327");
    }

    static void promise27_argumentsFarAwayAreRefused(Check check) {
        for (int far : new int[] {Integer.MIN_VALUE, Integer.MAX_VALUE, -9, 100}) {
            refused(check, Check.ARGUMENT, far, 1, 2, 3, 0);
            refused(check, Check.ARGUMENT, 1, far, 2, 3, 0);
            refused(check, Check.ARGUMENT, 1, 2, far, 3, 0);
            refused(check, Check.ARGUMENT, 1, 2, 3, far, 0);
        }
    }

    static void promise27_place0IsTaken_minus1IsRefused(Check check) {
        refused(check, Check.INDEX, 1, 2, 3, 4, -1);
        refused(check, Check.INDEX, 1, 2, 3, 4, Integer.MIN_VALUE);
        AffixWorks mill = Mills.typed("1");
        check.due("place 0", 2, () -> mill.ruled(1, 2, -1, -1, 0));
    }

    static void promise27_placeBehindTheLastLetterIs8(Check check) {
        AffixWorks mill = Mills.typed("1231");
        check.due("place 3", 2, () -> mill.ruled(1, 2, -1, -1, 3));
        check.due("place 4", 8, () -> mill.ruled(1, 2, -1, -1, 4));
        check.due("as far as can be", 8, () -> mill.ruled(1, 2, -1, -1, Integer.MAX_VALUE));
        check.due("place 1, where letters are left out", 3, () -> mill.ruled(1, 8, -1, -1, 1));
        check.due("place 2, where letters are left out", 8, () -> mill.ruled(1, 8, -1, -1, 2));
    }

    static void promise27_placeBelow0GoesAheadOfTheRule(Check check) {
        refused(check, Check.INDEX, 8, 2, 3, 4, -1);
        refused(check, Check.INDEX, 1, 9, 3, 4, -1);
        refused(check, Check.INDEX, 1, 2, -2, 4, -1);
        refused(check, Check.INDEX, 1, 2, 3, 8, -1);
    }

    static void promise27_wrongRuleOfNoLetterIsRefused(Check check) {
        AffixWorks mill = new AffixWorks();
        check.refusedUnchanged("f 8", Check.ARGUMENT, mill, () -> mill.ruled(8, 1, 1, 1, 0));
        check.refusedUnchanged("t 9, far behind", Check.ARGUMENT, mill, () -> mill.ruled(1, 9, 1, 1, 99));
        check.refusedUnchanged("place -1", Check.INDEX, mill, () -> mill.ruled(1, 1, 1, 1, -1));
    }

    static void promise27_emptyWordStaysEmpty(Check check) {
        makes(check, new int[] {1, 2, -1, -1}, "", "");
        makes(check, new int[] {1, 8, 2, 3}, "", "");
        check.due("place 0", 8, () -> new AffixWorks().ruled(1, 2, -1, -1, 0));
    }

    static void promise27_wordOf8Letters(Check check) {
        makes(check, new int[] {1, 2, -1, -1}, "11111111", "22222222");
        makes(check, new int[] {1, 2, 1, 1}, "11111111", "12222221");
        makes(check, new int[] {1, 8, -1, -1}, "11111111", "");
        makes(check, new int[] {1, 8, -1, -1}, "10101010", "0000");
    }

    static void promise27_firstLetterHasNoneAheadOfIt(Check check) {
        makes(check, new int[] {1, 2, -1, -1}, "1", "2");
        makes(check, new int[] {1, 2, 3, -1}, "1", "1");
        makes(check, new int[] {1, 2, 1, -1}, "11", "12");
    }

    static void promise27_lastLetterHasNoneBehindIt(Check check) {
        makes(check, new int[] {1, 2, -1, 3}, "1", "1");
        makes(check, new int[] {1, 2, -1, 1}, "11", "21");
    }

    /** Letters of a longer word, that was cleared, do not stand behind the last one. */
    static void promise27_lettersThatWereClearedAreNotBehindIt(Check check) {
        AffixWorks mill = Mills.typed("1333");
        mill.clear();
        mill.type(1);
        check.due("place 0", 1, () -> mill.ruled(1, 2, -1, 3, 0));
        check.due("place 1", 8, () -> mill.ruled(1, 2, -1, 3, 1));
    }

    static void promise27_lettersBesideAreThoseOfTheUpperWord(Check check) {
        makes(check, new int[] {1, 2, 1, -1}, "1111", "1222");
        makes(check, new int[] {1, 2, -1, 1}, "1111", "2221");
        makes(check, new int[] {1, 3, 3, -1}, "3111", "3311");
        makes(check, new int[] {1, 8, 1, 1}, "1111", "11");
    }

    /** What a machine can't be made of is ruled all the same. */
    static void promise27_emptyBetweenAnyOrFIsTaken(Check check) {
        makes(check, new int[] {1, 8, -1, -1}, "121", "2");
        makes(check, new int[] {1, 8, 1, -1}, "11121", "121");
        makes(check, new int[] {1, 8, -1, 1}, "11121", "121");
        makes(check, new int[] {1, 8, 1, 1}, "11121", "1121");
    }

    static void promise27_24MachinesMayBeThere(Check check) {
        AffixWorks mill = Bounds.withMachines(24);
        check.due("place 0", 5, () -> mill.ruled(1, 5, -1, 2, 0));
        check.due("machines", 24, () -> Mills.count(mill));
    }
}
