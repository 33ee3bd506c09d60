import java.util.Arrays;

/** Promise 15, its boundaries: letters, any and empty ones, rules that are not possible. */
public final class Promise15RuleTest {
    private static final boolean[] FREEDOMS = {false, true};

    public static void main(String[] args) {
        Cases.run(Promise15RuleTest.class);
    }

    /** The rule is refused in both ways, and the first machine is still to be made. */
    private static void refused(Check check, String exception, int f, int t, int l, int r) {
        String told = Arrays.toString(new int[] {f, t, l, r});
        for (boolean isFree : FREEDOMS) {
            AffixWorks mill = Mills.typed("12");
            check.refusedUnchanged("rule " + told, exception, mill, () -> mill.rule(f, t, l, r, isFree));
            check.due("the first machine behind rule " + told, 0, () -> mill.any());
        }
    }

    private static void taken(Check check, int f, int t, int l, int r) {
        String told = Arrays.toString(new int[] {f, t, l, r});
        for (boolean isFree : FREEDOMS) {
            AffixWorks mill = new AffixWorks();
            check.due("rule " + told, 0, () -> mill.rule(f, t, l, r, isFree));
        }
    }

    /** What a rule that is not free makes of a word. */
    private static void makes(Check check, int[] rule, String word, String due) {
        AffixWorks mill = Mills.typed(word);
        mill.rule(rule[0], rule[1], rule[2], rule[3], false);
        check.same("rule " + Arrays.toString(rule) + " of " + word, Mills.answers(mill, 0, false), "1: " + due);
        check.due("its cost", 0, () -> mill.cost(0, false));
    }

    /** What a free rule makes of a word. */
    private static void mayMake(Check check, int[] rule, String word, String due) {
        AffixWorks mill = Mills.typed(word);
        mill.rule(rule[0], rule[1], rule[2], rule[3], true);
        check.same("free rule " + Arrays.toString(rule) + " of " + word, Mills.answers(mill, 0, false), due);
        check.due("its cost", 0, () -> mill.cost(0, false));
    }

    static void promise15_f0IsTaken_minus1IsRefused(Check check) {
        refused(check, Check.ARGUMENT, -1, 1, 2, 3);
        taken(check, 0, 1, 2, 3);
        makes(check, new int[] {0, 1, 2, 3}, "203", "213");
    }

    static void promise15_f7IsTaken_8IsRefused(Check check) {
        refused(check, Check.ARGUMENT, 8, 1, 2, 3);
        taken(check, 7, 1, 2, 3);
        makes(check, new int[] {7, 1, 2, 3}, "273", "213");
    }

    static void promise15_t0IsTaken_minus1IsRefused(Check check) {
        refused(check, Check.ARGUMENT, 1, -1, 2, 3);
        taken(check, 1, 0, 2, 3);
        makes(check, new int[] {1, 0, 2, 3}, "213", "203");
    }

    static void promise15_t8IsTaken_9IsRefused(Check check) {
        refused(check, Check.ARGUMENT, 1, 9, 2, 3);
        taken(check, 1, 8, 2, 3);
        taken(check, 1, 7, 2, 3);
        makes(check, new int[] {1, 8, 2, 3}, "213", "23");
        makes(check, new int[] {1, 7, 2, 3}, "213", "273");
    }

    static void promise15_lMinus1IsTaken_minus2IsRefused(Check check) {
        refused(check, Check.ARGUMENT, 1, 2, -2, 3);
        taken(check, 1, 2, -1, 3);
        taken(check, 1, 2, 0, 3);
        makes(check, new int[] {1, 2, -1, 3}, "13", "23");
        makes(check, new int[] {1, 2, 0, 3}, "013", "023");
    }

    static void promise15_l7IsTaken_8IsRefused(Check check) {
        refused(check, Check.ARGUMENT, 1, 2, 8, 3);
        refused(check, Check.ARGUMENT, 1, 2, 9, 3);
        taken(check, 1, 2, 7, 3);
        makes(check, new int[] {1, 2, 7, 3}, "713", "723");
    }

    static void promise15_rMinus1IsTaken_minus2IsRefused(Check check) {
        refused(check, Check.ARGUMENT, 1, 2, 3, -2);
        taken(check, 1, 2, 3, -1);
        taken(check, 1, 2, 3, 0);
        makes(check, new int[] {1, 2, 3, -1}, "31", "32");
        makes(check, new int[] {1, 2, 3, 0}, "310", "320");
    }

    static void promise15_r7IsTaken_8IsRefused(Check check) {
        refused(check, Check.ARGUMENT, 1, 2, 3, 8);
        refused(check, Check.ARGUMENT, 1, 2, 3, 9);
        taken(check, 1, 2, 3, 7);
        makes(check, new int[] {1, 2, 3, 7}, "317", "327");
    }

    static void promise15_argumentsFarAwayAreRefused(Check check) {
        for (int far : new int[] {Integer.MIN_VALUE, Integer.MAX_VALUE, -9, 100}) {
            refused(check, Check.ARGUMENT, far, 1, 2, 3);
            refused(check, Check.ARGUMENT, 1, far, 2, 3);
            refused(check, Check.ARGUMENT, 1, 2, far, 3);
            refused(check, Check.ARGUMENT, 1, 2, 3, far);
        }
    }

    static void promise15_emptyBetweenAnyAndAnyIsRefused(Check check) {
        refused(check, Check.STATE, 1, 8, -1, -1);
    }

    static void promise15_emptyBetweenFAndAnyIsRefused(Check check) {
        refused(check, Check.STATE, 1, 8, 1, -1);
    }

    static void promise15_emptyBetweenAnyAndFIsRefused(Check check) {
        refused(check, Check.STATE, 1, 8, -1, 1);
    }

    static void promise15_emptyBetweenFAndFIsRefused(Check check) {
        refused(check, Check.STATE, 1, 8, 1, 1);
        refused(check, Check.STATE, 0, 8, 0, 0);
        refused(check, Check.STATE, 7, 8, 7, 7);
    }

    static void promise15_emptyBesideAnotherLetterIsTaken(Check check) {
        for (int f : new int[] {0, 1, 7}) {
            int other = f == 0 ? 7 : f - 1;
            taken(check, f, 8, other, -1);
            taken(check, f, 8, -1, other);
            taken(check, f, 8, other, f);
            taken(check, f, 8, f, other);
            taken(check, f, 8, other, other);
        }
    }

    static void promise15_letterBetweenAnyAndAnyIsTaken(Check check) {
        for (int t = 0; t < 8; t++) {
            taken(check, 1, t, -1, -1);
            taken(check, 1, t, 1, 1);
            taken(check, 1, t, -1, 1);
            taken(check, 1, t, 1, -1);
        }
    }

    static void promise15_outOfRangeGoesAheadOfARuleThatIsNotPossible(Check check) {
        refused(check, Check.ARGUMENT, 8, 8, -1, -1);
        refused(check, Check.ARGUMENT, 1, 8, -2, -1);
        refused(check, Check.ARGUMENT, 1, 8, -1, 8);
        refused(check, Check.ARGUMENT, 8, 8, 8, 8);
        refused(check, Check.ARGUMENT, -1, 8, -1, -1);
    }

    static void promise15_machines24AreTaken_25thIsRefused(Check check) {
        for (boolean isFree : FREEDOMS) {
            Bounds.machines24AreTaken25thRefused(check, mill -> mill.rule(1, 2, 3, 4, isFree));
        }
    }

    static void promise15_outOfRangeGoesAheadOf24Machines(Check check) {
        AffixWorks mill = Bounds.withMachines(24);
        check.refusedUnchanged("f", Check.ARGUMENT, mill, () -> mill.rule(8, 1, 1, 1, false));
        check.refusedUnchanged("t", Check.ARGUMENT, mill, () -> mill.rule(1, 9, 1, 1, false));
        check.refusedUnchanged("l", Check.ARGUMENT, mill, () -> mill.rule(1, 1, -2, 1, false));
        check.refusedUnchanged("r", Check.ARGUMENT, mill, () -> mill.rule(1, 1, 1, 8, false));
        check.refusedUnchanged("not possible", Check.STATE, mill, () -> mill.rule(1, 8, -1, -1, false));
        check.refusedUnchanged("nothing wrong", Check.STATE, mill, () -> mill.rule(1, 1, 1, 1, false));
    }

    static void promise15_firstLetterHasNoneAheadOfIt(Check check) {
        makes(check, new int[] {1, 2, -1, -1}, "1", "2");
        makes(check, new int[] {1, 2, 3, -1}, "1", "1");
        makes(check, new int[] {1, 2, 1, -1}, "1", "1");
        makes(check, new int[] {1, 2, 1, -1}, "11", "12");
    }

    static void promise15_lastLetterHasNoneBehindIt(Check check) {
        makes(check, new int[] {1, 2, -1, 3}, "1", "1");
        makes(check, new int[] {1, 2, -1, 1}, "1", "1");
        makes(check, new int[] {1, 2, -1, 1}, "11", "21");
        makes(check, new int[] {1, 2, 1, 1}, "111", "121");
    }

    static void promise15_letterBehindThatIsNotRStays(Check check) {
        makes(check, new int[] {1, 2, -1, 3}, "14", "14");
        makes(check, new int[] {1, 2, 0, 3}, "014", "014");
        makes(check, new int[] {1, 2, 0, 3}, "0113", "0113");
        mayMake(check, new int[] {1, 2, -1, 3}, "14", "1: 14");
    }

    /** In their order: (0, 0), (1, 0), (0, 2), and (0, 1), in which r has to come. */
    static void promise15_allStatesAreEndsButThoseThatWantR(Check check) {
        for (boolean isFree : FREEDOMS) {
            AffixWorks mill = new AffixWorks();
            mill.rule(1, 2, 3, 4, isFree);
            check.is("(0, 0)", true, mill.isEnd(0, 0));
            check.is("(1, 0)", true, mill.isEnd(0, 1));
            check.is("(0, 2)", true, mill.isEnd(0, 2));
            check.is("(0, 1)", false, mill.isEnd(0, 3));
        }
    }

    static void promise15_emptyWordStaysEmpty(Check check) {
        makes(check, new int[] {1, 2, -1, -1}, "", "");
        makes(check, new int[] {1, 8, 2, 3}, "", "");
        mayMake(check, new int[] {1, 2, -1, -1}, "", "1: ");
    }

    static void promise15_wordOf8LettersIsRewrittenWhole(Check check) {
        makes(check, new int[] {1, 2, -1, -1}, "11111111", "22222222");
        makes(check, new int[] {1, 2, 1, 1}, "11111111", "12222221");
        makes(check, new int[] {1, 8, 1, 2}, "11111112", "1111112");
        makes(check, new int[] {1, 8, 2, -1}, "21212121", "2222");
    }

    /** Free rules: each is or is not rewritten. */
    static void promise15_freeRuleRewritesAllOrSomeOrNone(Check check) {
        mayMake(check, new int[] {1, 2, -1, -1}, "111", "8: 111 112 121 122 211 212 221 222");
        mayMake(check, new int[] {1, 2, 3, -1}, "131", "2: 131 132");
        mayMake(check, new int[] {1, 2, -1, 3}, "131", "2: 131 231");
        mayMake(check, new int[] {1, 8, 0, 3}, "0131", "2: 0131 031");
        mayMake(check, new int[] {1, 2, 3, 3}, "3131", "2: 3131 3231");
        mayMake(check, new int[] {1, 2, 3, 3}, "1", "1: 1");
    }

    static void promise15_tMayBeF(Check check) {
        for (boolean isFree : FREEDOMS) {
            AffixWorks mill = new AffixWorks();
            mill.rule(1, 1, -1, -1, isFree);
            check.shown("all stay", mill, 0, "1 [0] 0:0/0$0>0 0:1/1$0>0 0:2/2$0>0 0:3/3$0>0 0:4/4$0>0"
                    + " 0:5/5$0>0 0:6/6$0>0 0:7/7$0>0");
        }
    }

    /** States to which no way leads are trimmed: one for any and any, two, three, four. */
    static void promise15_statesAre1To4(Check check) {
        AffixWorks mill = new AffixWorks();
        check.due("any, any", 1008, () -> mill.size(mill.rule(1, 2, -1, -1, false)));
        check.due("l, any", 2016, () -> mill.size(mill.rule(1, 2, 3, -1, false)));
        // (1, 0) has 9 arcs, (1, 2) has 8 but for the one of r, and (1, 1) has that.
        check.due("any, r", 3018, () -> mill.size(mill.rule(1, 2, -1, 3, false)));
        // (0, 0) has 8 arcs, (1, 0) has 9, (0, 2) has 7, and (0, 1) has that of r.
        check.due("l, r", 4025, () -> mill.size(mill.rule(1, 2, 3, 4, false)));
        // Behind l = f p stays: (1, 0) has 9, (1, 2) has 8 but for the one of r, (1, 1) has that.
        check.due("f, r", 4026, () -> mill.size(mill.rule(1, 2, 1, 4, false)));
    }

    static void promise15_refusedCallChangesNothing(Check check) {
        AffixWorks mill = Bounds.withMachines(2);
        check.refusedUnchanged("not possible", Check.STATE, mill, () -> mill.rule(1, 8, -1, -1, true));
        check.refusedUnchanged("out of range", Check.ARGUMENT, mill, () -> mill.rule(1, 9, 0, 0, true));
        check.due("the next number is free", 2, () -> mill.rule(1, 2, -1, -1, true));
        check.same("the word", Mills.typedWord(mill), "12");
    }
}
