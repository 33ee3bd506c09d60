/** Promise 6, its boundaries: letters 0 to 7, one of them; 24 machines. */
public final class Promise06AnyTest {
    public static void main(String[] args) {
        Cases.run(Promise06AnyTest.class);
    }

    static void promise06_arcsAreThoseOf0To7(Check check) {
        AffixWorks mill = new AffixWorks();
        check.due("any", 0, () -> mill.any());
        check.shown("it", mill, 0, "2 [1] 0:0/0$0>1 0:1/1$0>1 0:2/2$0>1 0:3/3$0>1 0:4/4$0>1"
                + " 0:5/5$0>1 0:6/6$0>1 0:7/7$0>1");
    }

    static void promise06_oneLetterIsIn_noneAndTwoAreNot(Check check) {
        AffixWorks mill = new AffixWorks();
        mill.any();
        check.due("none", 0, () -> mill.answers(0, false));
        for (int letter = 0; letter < 8; letter++) {
            Mills.retype(mill, "" + letter);
            check.same("letter " + letter, Mills.answers(mill, 0, false), "1: " + letter);
            mill.type(letter);
            check.due("twice letter " + letter, 0, () -> mill.answers(0, false));
        }
    }

    static void promise06_machines24AreTaken_25thIsRefused(Check check) {
        Bounds.machines24AreTaken25thRefused(check, mill -> mill.any());
    }

    static void promise06_refusedCallChangesNothing(Check check) {
        AffixWorks mill = Mills.typed("5");
        for (int machine = 0; machine < 24; machine++) {
            mill.word();
        }
        check.refusedUnchanged("a 25th", Check.STATE, mill, () -> mill.any());
        check.shown("the 24th is as it was", mill, 23, "2 [1] 0:5/5$0>1");
    }
}
