/** Promises 16 to 19: size, isEnd, arc, isPlain. */
public final class LookingTest {
    private static final int[] NOWHERE = {Integer.MIN_VALUE, -1000, -1};

    private static final Check CHECK = new Check("LookingTest");

    public static void main(String[] args) {
        checkSize();
        checkIsEnd();
        checkArc();
        checkArcRefuses();
        checkIsPlain();
        checkNoSuchMachine();
        CHECK.end();
    }

    private static void checkSize() {
        AffixWorks mill = Mills.typed("12345670");
        mill.pair(1, 2, 3);
        mill.any();
        mill.word();
        mill.compose(0, 0);
        mill.clear();
        mill.word();
        mill.rule(1, 2, -1, -1, false);
        CHECK.due("size of a pair", 2001, () -> mill.size(0));
        CHECK.due("size of any", 2008, () -> mill.size(1));
        CHECK.due("size of a word", 9008, () -> mill.size(2));
        CHECK.due("size of nothing", 1000, () -> mill.size(3));
        CHECK.due("size of the empty word", 1000, () -> mill.size(4));
        CHECK.due("size of a rule", 1008, () -> mill.size(5));
    }

    private static void checkIsEnd() {
        AffixWorks mill = Mills.typed("12");
        mill.word();
        mill.unite(0, mill.pair(1, 2, 3));
        CHECK.same("ends of a word", Mills.show(mill, 0), "3 [2] 0:1/1$0>1 1:2/2$0>2");
        int[] due = {0, 0, 0, 0, 1, 1};
        for (int state = 0; state < due.length; state++) {
            int at = state;
            CHECK.due("isEnd(2, " + at + ")", due[at], () -> mill.isEnd(2, at) ? 1 : 0);
        }
        CHECK.refused("a state behind the last", Check.INDEX, () -> mill.isEnd(2, 6) ? 1 : 0);
        CHECK.refused("a state behind the last of a word", Check.INDEX, () -> mill.isEnd(0, 3) ? 1 : 0);
        CHECK.refused("a state far behind", Check.INDEX,
                () -> mill.isEnd(0, Integer.MAX_VALUE) ? 1 : 0);
        CHECK.refused("a state of another machine", Check.INDEX, () -> mill.isEnd(1, 2) ? 1 : 0);
        for (int state : NOWHERE) {
            CHECK.refused("state " + state, Check.INDEX, () -> mill.isEnd(2, state) ? 1 : 0);
        }
    }

    private static void checkArc() {
        AffixWorks mill = new AffixWorks();
        mill.unite(mill.pair(7, 8, 100), mill.pair(0, 5, 6));
        int[][] due = {{0, 8, 8, 0, 1}, {0, 8, 8, 0, 2}, {1, 7, 8, 100, 3}, {2, 0, 5, 6, 4}};
        for (int arc = 0; arc < 4; arc++) {
            for (int what = 0; what < 5; what++) {
                int at = arc;
                int of = what;
                CHECK.due("arc(2, " + at + ", " + of + ")", due[at][of], () -> mill.arc(2, at, of));
            }
        }
    }

    private static void checkArcRefuses() {
        AffixWorks mill = new AffixWorks();
        mill.pair(1, 2, 3);
        mill.word();
        int[] wrong = {Integer.MIN_VALUE, -1, 5, 6, Integer.MAX_VALUE};
        for (int what : wrong) {
            CHECK.refused("what " + what, Check.ARGUMENT, () -> mill.arc(0, 0, what));
            CHECK.refused("arc 1, what " + what, Check.INDEX, () -> mill.arc(0, 1, what));
            CHECK.refused("machine 2, what " + what, Check.INDEX, () -> mill.arc(2, 0, what));
        }
        int[] arcs = {Integer.MIN_VALUE, -1, 1, 160, Integer.MAX_VALUE};
        for (int arc : arcs) {
            CHECK.refused("arc " + arc, Check.INDEX, () -> mill.arc(0, arc, 0));
        }
        CHECK.refused("an arc where there is none", Check.INDEX, () -> mill.arc(1, 0, 0));
    }

    private static void checkIsPlain() {
        AffixWorks mill = Mills.typed("123");
        int[] plain = {
            mill.word(), mill.any(), mill.pair(8, 8, 0), mill.pair(3, 3, 0), mill.unite(0, 1),
            mill.rule(1, 1, 2, 3, true),
        };
        int[] unlike = {
            mill.pair(3, 3, 1), mill.pair(8, 8, 1), mill.pair(1, 2, 0), mill.pair(1, 8, 0),
            mill.pair(8, 1, 0), mill.rule(1, 2, -1, -1, false),
        };
        for (int machine : plain) {
            CHECK.due("plain " + machine, 1, () -> mill.isPlain(machine) ? 1 : 0);
            int joined = mill.join(machine, unlike[2]);
            CHECK.due("not plain behind " + machine, 0, () -> mill.isPlain(joined) ? 1 : 0);
        }
        for (int machine : unlike) {
            CHECK.due("unlike " + machine, 0, () -> mill.isPlain(machine) ? 1 : 0);
        }
        // A machine without arcs is plain, whatever it was made of.
        int nothing = mill.compose(unlike[2], unlike[2]);
        CHECK.due("nothing is plain", 1, () -> mill.isPlain(nothing) ? 1 : 0);
        CHECK.due("a side is plain", 1, () -> mill.isPlain(mill.side(unlike[3], true)) ? 1 : 0);
    }

    private static void checkNoSuchMachine() {
        AffixWorks mill = new AffixWorks();
        for (int count = 0; count < 2; count++) {
            int[] wrong = {count, count + 1, 24, Integer.MAX_VALUE, -1, Integer.MIN_VALUE};
            for (int machine : wrong) {
                CHECK.refused("size(" + machine + ")", Check.INDEX, () -> mill.size(machine));
                CHECK.refused("isEnd(" + machine + ")", Check.INDEX,
                        () -> mill.isEnd(machine, 0) ? 1 : 0);
                CHECK.refused("arc(" + machine + ")", Check.INDEX, () -> mill.arc(machine, 0, 0));
                CHECK.refused("isPlain(" + machine + ")", Check.INDEX,
                        () -> mill.isPlain(machine) ? 1 : 0);
            }
            mill.any();
        }
    }
}
