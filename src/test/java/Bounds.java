/** Machines at the limits of the document, and what the boundary cases of several calls share. */
final class Bounds {
    static final int[] FAR = {Integer.MIN_VALUE, -1000, -2, 24, 25, 1000, Integer.MAX_VALUE};

    private Bounds() {
    }

    interface Making {
        int make(AffixWorks mill);
    }

    interface OfMachine {
        long of(AffixWorks mill, int machine);
    }

    // ---- mills

    /** A mill of so many machines, all of any letter, that has learnt its word 12. */
    static AffixWorks withMachines(int count) {
        AffixWorks mill = Mills.typed("12");
        mill.learn(3);
        for (int machine = 0; machine < count; machine++) {
            mill.any();
        }
        return mill;
    }

    // ---- machines

    static int empty(AffixWorks mill) {
        return Mills.word(mill, "");
    }

    /** A machine that relates nothing. */
    static int nothing(AffixWorks mill) {
        int pair = mill.pair(1, 2, 3);
        return mill.compose(pair, pair);
    }

    static int zeros(AffixWorks mill, int letters) {
        return Mills.word(mill, "0".repeat(letters));
    }

    /** A plain machine of one word of 0s, of exactly so many states, 1 to 32. */
    static int states(AffixWorks mill, int count) {
        int left = count;
        int made = -1;
        while (left > 0) {
            int part = zeros(mill, Math.min(left, 9) - 1);
            made = made < 0 ? part : mill.join(made, part);
            left -= Math.min(left, 9);
        }
        return made;
    }

    /** Least machines of all words of 1, 2, 4, 5, 9 and 10 letters: n + 1 states, 8 n arcs. */
    static int[] anys(AffixWorks mill) {
        int[] anys = new int[11];
        anys[1] = mill.any();
        anys[2] = mill.least(mill.join(anys[1], anys[1]));
        anys[4] = mill.least(mill.join(anys[2], anys[2]));
        anys[5] = mill.least(mill.join(anys[4], anys[1]));
        anys[9] = mill.least(mill.join(anys[4], anys[5]));
        anys[10] = mill.least(mill.join(anys[5], anys[5]));
        return anys;
    }

    /** A plain machine of one end and 73 + letters arcs, in 11 + letters states. */
    static int arcs73And(AffixWorks mill, int[] anys, int letters) {
        return mill.join(anys[9], zeros(mill, letters));
    }

    /** A plain machine of 28 states, one end, and 160 arcs, made of 14 machines. */
    static int arcs160(AffixWorks mill) {
        int[] anys = anys(mill);
        return mill.join(anys[10], arcs73And(mill, anys, 6));
    }

    /** The machine of one word of 31 letters, 15 0s on both sides of a 1: 32 states, 31 arcs. */
    static int word31(AffixWorks mill) {
        int zeros = mill.join(zeros(mill, 8), zeros(mill, 7));
        int loop = cycle(mill, zeros(mill, 1));
        int one = Mills.word(mill, "1");
        int ahead = mill.join(zeros, mill.join(one, loop));
        return mill.meet(ahead, mill.join(loop, mill.join(one, zeros)), true);
    }

    /** The least machine of all rows of a machine, of none on; made of a word it is a cycle. */
    static int cycle(AffixWorks mill, int machine) {
        return mill.least(mill.repeat(machine));
    }

    /** The least machine of the words of 0 to 4 whose last letter but four is 0. */
    static int states32Arcs160(AffixWorks mill) {
        int five = mill.any();
        for (int letter = 5; letter < 8; letter++) {
            five = mill.meet(five, Mills.word(mill, "" + letter), false);
        }
        int two = mill.join(five, five);
        int four = mill.least(mill.join(two, two));
        int rows = mill.join(mill.repeat(five), mill.join(zeros(mill, 1), four));
        return mill.least(rows);
    }

    /** The least machine of all words of 0, 20, 40 .. letters: 20 states, 160 arcs. */
    static int cycleOf160Arcs(AffixWorks mill) {
        int any = mill.any();
        int two = mill.join(any, any);
        int four = mill.join(two, two);
        return mill.meet(cycle(mill, four), cycle(mill, mill.join(four, any)), true);
    }

    /**
     * The least machine of the rows of 0 whose count goes into 5 or 6, and a word of so many
     * 1s: 30 states, one that is the first alone, and one more for each 1.
     */
    static int cyclesAndOnes(AffixWorks mill, int ones) {
        int five = cycle(mill, zeros(mill, 5));
        int six = cycle(mill, zeros(mill, 6));
        return mill.least(mill.unite(mill.unite(five, six), Mills.word(mill, "1".repeat(ones))));
    }

    /** Least machines of the words without 7 of 0, 4, 8 .. letters, and of 0, 5, 10 .. */
    static int[] cyclesWithout7(AffixWorks mill) {
        int one = mill.meet(mill.any(), Mills.word(mill, "7"), false);
        int two = mill.join(one, one);
        int four = mill.join(two, two);
        return new int[] {cycle(mill, four), cycle(mill, mill.join(four, one))};
    }

    /** A 7, any letter, and so many 0s. */
    static int wordsFrom7(AffixWorks mill, int zeros) {
        return mill.join(mill.join(Mills.word(mill, "7"), mill.any()), zeros(mill, zeros));
    }

    /**
     * Relates 0000, which it types, to 16 words of 0 and 1, and to so many more: 2222, 3333 ..;
     * made of 3 machines for each of them, and 2.
     */
    static int answers16And(AffixWorks mill, int more) {
        int made = mill.rule(0, 1, -1, -1, true);
        int word = Mills.word(mill, "0000");
        for (int letter = 2; letter < 2 + more; letter++) {
            made = mill.unite(made, mill.compose(word, mill.rule(0, letter, -1, -1, false)));
        }
        return made;
    }

    /** Relates 1 to 0, 00 and 000, of which each goes on behind the one ahead. */
    static int answersThatGoOn(AffixWorks mill) {
        int made = mill.pair(1, 0, 0);
        int put = mill.pair(8, 0, 0);
        int maybe = mill.unite(put, empty(mill));
        int twice = mill.join(maybe, maybe);
        return mill.join(made, twice);
    }

    /** A machine that relates 1 to 1 for 1000000, made of 18 machines. */
    static int dearest(AffixWorks mill) {
        int doubled = mill.pair(1, 1, 100);
        int sum = -1;
        for (int bit = 0; bit <= 13; bit++) {
            if ((10000 >> bit & 1) == 1) {
                sum = sum < 0 ? doubled : mill.compose(sum, doubled);
            }
            if (bit < 13) {
                doubled = mill.compose(doubled, doubled);
            }
        }
        return sum;
    }

    // ---- cases that several calls share

    /** 24 machines can be had, and not one more, by a call that is possible but for that. */
    static void machines24AreTaken25thRefused(Check check, Making making) {
        AffixWorks mill = withMachines(23);
        check.due("the machine behind 23", 23, () -> making.make(mill));
        check.refusedUnchanged("the machine behind 24", Check.STATE, mill, () -> making.make(mill));
        check.refusedUnchanged("the machine behind 24, again", Check.STATE, mill,
                () -> making.make(mill));
        check.due("how many there are", 24, () -> Mills.count(mill));
    }

    /** Of three machines 0 to 2 are taken; what is beside them, or far away, is refused. */
    static void machinesBesideAreRefused(Check check, OfMachine call) {
        for (int machine = 0; machine < 3; machine++) {
            AffixWorks mill = withMachines(3);
            int taken = machine;
            check.is("machine " + taken + " of 3 is refused", false,
                    Check.outcome(() -> call.of(mill, taken)).endsWith("Exception"));
        }
        AffixWorks mill = withMachines(3);
        for (int machine : new int[] {-1, 3}) {
            check.refusedUnchanged("machine " + machine + " of 3", Check.INDEX, mill,
                    () -> call.of(mill, machine));
        }
        for (int machine : FAR) {
            check.refusedUnchanged("machine " + machine + " of 3", Check.INDEX, mill,
                    () -> call.of(mill, machine));
        }
    }

    static void noMachineIsRefused(Check check, OfMachine call) {
        AffixWorks mill = withMachines(0);
        for (int machine : new int[] {0, 1, -1, 23}) {
            check.refusedUnchanged("machine " + machine + " of none", Check.INDEX, mill,
                    () -> call.of(mill, machine));
        }
    }

    /** For calls that make nothing: the last of 24 machines is taken, the next one refused. */
    static void machine23IsTaken24Refused(Check check, OfMachine call) {
        AffixWorks mill = withMachines(24);
        check.is("machine 23 of 24 is refused", false,
                Check.outcome(() -> call.of(mill, 23)).endsWith("Exception"));
        check.refusedUnchanged("machine 24 of 24", Check.INDEX, mill, () -> call.of(mill, 24));
        check.refusedUnchanged("machine -1 of 24", Check.INDEX, mill, () -> call.of(mill, -1));
    }

    /** A machine that does not exist goes ahead of a mill that is full. */
    static void indexGoesAheadOf24Machines(Check check, OfMachine call) {
        AffixWorks mill = withMachines(24);
        check.refusedUnchanged("machine 24 of 24", Check.INDEX, mill, () -> call.of(mill, 24));
        check.refusedUnchanged("machine -1 of 24", Check.INDEX, mill, () -> call.of(mill, -1));
        check.refusedUnchanged("machine 23 of 24", Check.STATE, mill, () -> call.of(mill, 23));
    }
}
