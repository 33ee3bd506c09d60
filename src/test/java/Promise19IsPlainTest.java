/** Promise 19, its boundaries: letters that are the same, a cost of 0, all arcs. */
public final class Promise19IsPlainTest {
    public static void main(String[] args) {
        Cases.run(Promise19IsPlainTest.class);
    }

    static void promise19_noMachineIsRefused(Check check) {
        Bounds.noMachineIsRefused(check, (mill, machine) -> mill.isPlain(machine) ? 1 : 0);
    }

    static void promise19_of3_0To2AreTaken_minus1And3AreRefused(Check check) {
        Bounds.machinesBesideAreRefused(check, (mill, machine) -> mill.isPlain(machine) ? 1 : 0);
    }

    static void promise19_of24_23IsTaken_24IsRefused(Check check) {
        Bounds.machine23IsTaken24Refused(check, (mill, machine) -> mill.isPlain(machine) ? 1 : 0);
    }

    static void promise19_cost0IsPlain_cost1IsNot(Check check) {
        AffixWorks mill = new AffixWorks();
        for (int letter : new int[] {0, 7, 8}) {
            check.is("cost 0", true, mill.isPlain(mill.pair(letter, letter, 0)));
            check.is("cost 1", false, mill.isPlain(mill.pair(letter, letter, 1)));
            check.is("cost 100", false, mill.isPlain(mill.pair(letter, letter, 100)));
        }
    }

    static void promise19_lettersThatDifferAreNotPlain(Check check) {
        AffixWorks mill = new AffixWorks();
        int[][] pairs = {{0, 1}, {1, 0}, {7, 8}, {8, 7}, {0, 8}, {8, 0}};
        for (int[] pair : pairs) {
            check.is(pair[0] + " and " + pair[1], false, mill.isPlain(mill.pair(pair[0], pair[1], 0)));
        }
    }

    static void promise19_machineWithoutArcsIsPlain(Check check) {
        AffixWorks mill = new AffixWorks();
        check.is("the empty word", true, mill.isPlain(mill.word()));
        check.is("nothing", true, mill.isPlain(Bounds.nothing(mill)));
    }

    static void promise19_oneArcOfAllIsEnough(Check check) {
        AffixWorks mill = new AffixWorks();
        int[] anys = Bounds.anys(mill);
        int rows = mill.join(anys[10], Bounds.arcs73And(mill, anys, 4));
        int plain = mill.join(rows, mill.pair(0, 0, 0));
        int last = mill.join(rows, mill.pair(0, 0, 1));
        int first = mill.join(mill.pair(0, 1, 0), rows);
        check.due("arcs", 28160, () -> mill.size(last));
        check.is("all of 160 arcs are", true, mill.isPlain(plain));
        check.is("the last of 160 is not", false, mill.isPlain(last));
        check.is("the first of 160 is not", false, mill.isPlain(first));
    }

    static void promise19_arcsThatWereTrimmedDoNotMatter(Check check) {
        AffixWorks mill = new AffixWorks();
        int dear = mill.pair(1, 2, 3);
        int nothing = mill.compose(dear, dear);
        int plain = mill.pair(5, 5, 0);
        check.is("united with what is trimmed", true,
                mill.isPlain(mill.unite(plain, mill.join(dear, nothing))));
    }
}
