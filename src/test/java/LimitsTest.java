/** What is told under "Making" of limits: machines, states, arcs, what two arcs cost together. */
public final class LimitsTest {
    private static final int NOTHING_YET = -1;

    private static final Check CHECK = new Check("LimitsTest");

    public static void main(String[] args) {
        checkMostMachines();
        checkMostStates();
        checkStatesAheadOfTrimming();
        checkMostArcs();
        checkArcsOfLeast();
        checkStatesOfLeast();
        checkDearestArc();
        checkArcsWithoutAWay();
        checkArcsThatDoNotMeet();
        CHECK.end();
    }

    private static void checkMostMachines() {
        AffixWorks mill = Mills.typed("1");
        for (int machine = 0; machine < 24; machine++) {
            int number = machine;
            CHECK.due("machine " + number, number, () -> mill.any());
        }
        CHECK.refused("pair 24", Check.STATE, () -> mill.pair(1, 2, 3));
        CHECK.refused("word 24", Check.STATE, () -> mill.word());
        CHECK.refused("any 24", Check.STATE, () -> mill.any());
        CHECK.refused("join 24", Check.STATE, () -> mill.join(0, 23));
        CHECK.refused("unite 24", Check.STATE, () -> mill.unite(0, 23));
        CHECK.refused("repeat 24", Check.STATE, () -> mill.repeat(23));
        CHECK.refused("turn 24", Check.STATE, () -> mill.turn(23));
        CHECK.refused("compose 24", Check.STATE, () -> mill.compose(0, 23));
        CHECK.refused("side 24", Check.STATE, () -> mill.side(23, true));
        CHECK.refused("least 24", Check.STATE, () -> mill.least(23));
        CHECK.refused("meet 24", Check.STATE, () -> mill.meet(0, 23, true));
        CHECK.refused("rule 24", Check.STATE, () -> mill.rule(1, 2, 3, 4, false));
        CHECK.refused("wrong pair 24", Check.ARGUMENT, () -> mill.pair(9, 2, 3));
        CHECK.refused("wrong rule 24", Check.ARGUMENT, () -> mill.rule(8, 8, -1, -1, false));
        CHECK.refused("wrong join 24", Check.INDEX, () -> mill.join(0, 24));
        CHECK.refused("wrong unite 24", Check.INDEX, () -> mill.unite(24, 0));
        CHECK.refused("wrong repeat 24", Check.INDEX, () -> mill.repeat(24));
        CHECK.refused("wrong turn 24", Check.INDEX, () -> mill.turn(-1));
        CHECK.refused("wrong compose 24", Check.INDEX, () -> mill.compose(24, 0));
        CHECK.refused("wrong side 24", Check.INDEX, () -> mill.side(24, false));
        CHECK.refused("wrong least 24", Check.INDEX, () -> mill.least(24));
        CHECK.refused("wrong meet 24", Check.INDEX, () -> mill.meet(24, 0, false));
        CHECK.refused("no machine 24", Check.INDEX, () -> mill.size(24));
        CHECK.due("machine 23 is as it was", 2008, () -> mill.size(23));
        CHECK.due("the word is as it was", 1, () -> mill.clear());
        CHECK.due("words can still be looked up", -1, () -> mill.apart(0, 23, 0));
    }

    private static void checkMostStates() {
        AffixWorks mill = new AffixWorks();
        int eight = Mills.word(mill, "00000000");
        int many = mill.join(mill.join(eight, eight), eight);
        CHECK.due("27 states", 27026, () -> mill.size(many));
        int four = Mills.word(mill, "0000");
        int five = Mills.word(mill, "00000");
        CHECK.due("32 states", 5, () -> mill.join(many, four));
        CHECK.due("size of 32 states", 32031, () -> mill.size(5));
        CHECK.refused("33 states by join", Check.STATE, () -> mill.join(many, five));
        CHECK.refused("33 states by join ahead", Check.STATE, () -> mill.join(five, many));
        CHECK.refused("33 states by unite", Check.STATE, () -> mill.unite(many, four));
        CHECK.refused("33 states by repeat", Check.STATE, () -> mill.repeat(5));
        int three = Mills.word(mill, "000");
        CHECK.due("none of them is made", 6, () -> three);
        CHECK.due("32 states by unite", 32, () -> mill.size(mill.unite(many, three)) / 1000);
    }

    /** What is trimmed away does not count. */
    private static void checkStatesAheadOfTrimming() {
        AffixWorks mill = new AffixWorks();
        int eight = Mills.word(mill, "00000000");
        int many = mill.join(mill.join(eight, eight), mill.join(eight, Mills.word(mill, "0000")));
        int zero = Mills.word(mill, "0");
        int nothing = mill.compose(zero, Mills.word(mill, "1"));
        CHECK.due("32 states", 32, () -> mill.size(many) / 1000);
        CHECK.due("joined to nothing", 1000, () -> mill.size(mill.join(many, nothing)));
        int least = mill.least(many);
        CHECK.due("the least", 29028, () -> mill.size(least));
        CHECK.due("29 states by 29", 29028, () -> mill.size(mill.compose(least, least)));
        CHECK.due("29 states, 2, and a new one", 32,
                () -> mill.size(mill.unite(least, zero)) / 1000);
        int two = Mills.word(mill, "00");
        CHECK.refused("29 states, 3, and a new one", Check.STATE, () -> mill.unite(least, two));
    }

    private static void checkMostArcs() {
        AffixWorks mill = new AffixWorks();
        // One letter becomes any that is not below it: more and more arcs, all in one state.
        for (int letter = 0; letter < 7; letter++) {
            mill.rule(letter, letter + 1, -1, -1, true);
        }
        int up = 0;
        int nearlyUp = 0;
        for (int letter = 1; letter < 7; letter++) {
            nearlyUp = up;
            up = mill.compose(up, letter);
        }
        int most = up;
        int some = nearlyUp;
        CHECK.due("36 arcs", 1036, () -> mill.size(most));
        CHECK.due("29 arcs", 1029, () -> mill.size(some));
        int all = mill.compose(most, mill.turn(most));
        CHECK.due("64 arcs", 1064, () -> mill.size(all));
        int twice = mill.join(all, all);
        CHECK.due("129 arcs", 2129, () -> mill.size(twice));
        int thirty = mill.join(some, mill.word());
        int moreThanThirty = mill.join(some, mill.pair(8, 8, 0));
        CHECK.due("160 arcs", 20, () -> mill.join(twice, thirty));
        CHECK.due("size of 160 arcs", 4160, () -> mill.size(20));
        CHECK.refused("161 arcs", Check.STATE, () -> mill.join(twice, moreThanThirty));
        CHECK.refused("161 arcs, the other way", Check.STATE, () -> mill.join(moreThanThirty, twice));
        CHECK.due("none of them is made", 21, () -> mill.side(20, true));
        CHECK.due("of a side each letter has one arc", 4000 + 3 * 8 + 3, () -> mill.size(21));
        checkMostArcsUsed(mill, 20, 16);
    }

    /** A machine of 160 arcs, in four states one behind the other, and one of the empty word. */
    private static void checkMostArcsUsed(AffixWorks mill, int most, int empty) {
        CHECK.refused("repeat", Check.STATE, () -> mill.repeat(most));
        CHECK.refused("162 arcs", Check.STATE, () -> mill.unite(most, empty));
        CHECK.refused("least", Check.STATE, () -> mill.least(most));
        CHECK.same("the empty word and it", Mills.show(mill, mill.compose(empty, most)),
                "4 [3] 0:8/8$0>1 1:8/8$0>2 2:8/8$0>3");
        CHECK.same("it and the empty word", Mills.show(mill, mill.compose(most, empty)),
                "4 [3] 0:8/8$0>1 1:8/8$0>2 2:8/8$0>3");
        Mills.retype(mill, "70");
        CHECK.due("answers", 20, () -> mill.answers(most, false));
        CHECK.same("the last that is told", Mills.answer(mill, most, false, 19), "23");
        CHECK.same("the best", Mills.best(mill, most, true), "00");
        CHECK.due("the cost", 0, () -> mill.cost(most, true));
        CHECK.due("the changes", 0, () -> mill.changes(most));
        CHECK.same("mended", Mills.mended(mill, most), "70");
        CHECK.due("its last arc", 2, () -> mill.arc(most, 159, 0));
        CHECK.refused("no arc behind it", Check.INDEX, () -> mill.arc(most, 160, 0));
        CHECK.due("not plain", 0, () -> mill.isPlain(most) ? 1 : 0);
    }

    /** 32 states can be had with letters 0 and 1, but not with all of them. */
    private static void checkArcsOfLeast() {
        AffixWorks mill = new AffixWorks();
        int zero = Mills.word(mill, "0");
        int few = mill.unite(zero, Mills.word(mill, "1"));
        int any = mill.any();
        int fewTwice = mill.join(few, few);
        int anyTwice = mill.join(any, any);
        int fewEnd = mill.join(zero, mill.join(fewTwice, fewTwice));
        int anyEnd = mill.join(zero, mill.join(anyTwice, anyTwice));
        int small = mill.join(mill.repeat(few), mill.least(fewEnd));
        int large = mill.join(mill.repeat(any), mill.least(anyEnd));
        int least = mill.least(small);
        CHECK.due("32 states, 64 arcs", 32064, () -> mill.size(least));
        CHECK.refused("32 states, 256 arcs", Check.STATE, () -> mill.least(large));
        CHECK.refused("so also of a meet", Check.STATE, () -> mill.meet(large, large, true));
        CHECK.due("they can be told apart from others", 0, () -> mill.apart(large, small, 0));
        CHECK.due("none of them is made", 17, () -> mill.any());
        CHECK.due("1024 pairs of states", 32064, () -> mill.size(mill.compose(least, least)));
        checkMostStatesLookedUp(mill, least);
    }

    /** In it are the words of 0 and 1 whose last letter but four is 0. */
    private static void checkMostStatesLookedUp(AffixWorks mill, int machine) {
        for (int word = 0; word < 256; word++) {
            StringBuilder letters = new StringBuilder();
            for (int bit = 7; bit >= 0; bit--) {
                letters.append(word >> bit & 1);
            }
            Mills.retype(mill, letters.toString());
            boolean isIn = letters.charAt(3) == '0';
            CHECK.due("answers for " + letters, isIn ? 1 : 0, () -> mill.answers(machine, false));
            CHECK.due("cost of " + letters, isIn ? 0 : -1, () -> mill.cost(machine, true));
            CHECK.due("changes of " + letters, isIn ? 0 : 1, () -> mill.changes(machine));
            CHECK.same("mended " + letters, Mills.mended(mill, machine),
                    isIn ? letters.toString() : firstMended(letters));
        }
    }

    /** The first word in it at one change from a word that is not in it. */
    private static String firstMended(StringBuilder letters) {
        String first = "2";
        for (int at = 0; at <= 8; at++) {
            for (int letter = 0; letter < 2; letter++) {
                String[] changed = {
                    new StringBuilder(letters).insert(at, letter).toString(),
                    new StringBuilder(letters).replace(at, at + 1, "" + letter).toString(),
                    new StringBuilder(letters).delete(at, at + 1).toString(),
                };
                for (String word : changed) {
                    if (word.charAt(word.length() - 5) == '0' && word.compareTo(first) < 0) {
                        first = word;
                    }
                }
            }
        }
        return first;
    }

    /** 64 states, and more than 200 sets. */
    private static void checkStatesOfLeast() {
        AffixWorks mill = new AffixWorks();
        int zero = Mills.word(mill, "0");
        int few = mill.unite(zero, Mills.word(mill, "1"));
        int all = mill.repeat(few);
        int two = mill.least(mill.join(few, few));
        int four = mill.least(mill.join(two, two));
        int five = mill.join(mill.join(zero, four), mill.least(few));
        int seven = mill.join(mill.join(zero, four), mill.least(mill.join(two, few)));
        int wide = mill.join(all, five);
        int wider = mill.join(all, seven);
        CHECK.refused("64 states", Check.STATE, () -> mill.least(wide));
        CHECK.refused("256 sets", Check.STATE, () -> mill.least(wider));
        CHECK.due("64 sets can be told apart", 0, () -> mill.apart(wide, zero, 0));
        CHECK.refused("256 sets can't, though the word is short", Check.STATE,
                () -> mill.apart(wider, zero, 0));
        CHECK.refused("nor the other way", Check.STATE, () -> mill.apart(zero, wider, 0));
        CHECK.refused("nor from themselves", Check.STATE, () -> mill.apart(wider, wider, 0));
        CHECK.refused("256 pairs of a difference", Check.STATE, () -> mill.meet(wider, zero, false));
        CHECK.due("few pairs of a difference", 2001, () -> mill.size(mill.meet(zero, wider, false)));
        CHECK.due("few pairs of a meet", 1000, () -> mill.size(mill.meet(wider, zero, true)));
    }

    /** Returns the number of a machine that relates 1 to 1 for 1000000. */
    private static int dearest(AffixWorks mill) {
        int doubled = mill.pair(1, 1, 100);
        int sum = NOTHING_YET;
        for (int bit = 0; bit <= 13; bit++) {
            if ((10000 >> bit & 1) == 1) {
                sum = sum == NOTHING_YET ? doubled : mill.compose(sum, doubled);
            }
            if (bit < 13) {
                doubled = mill.compose(doubled, doubled);
            }
        }
        return sum;
    }

    private static void checkDearestArc() {
        AffixWorks mill = new AffixWorks();
        int dearest = dearest(mill);
        CHECK.same("the dearest", Mills.show(mill, dearest), "2 [1] 0:1/1$1000000>1");
        int free = mill.pair(1, 1, 0);
        int cheap = mill.pair(1, 1, 1);
        CHECK.due("with one that costs nothing", 1000000, () -> mill.arc(mill.compose(free, dearest), 0, 3));
        CHECK.refused("with one that costs 1", Check.STATE, () -> mill.compose(dearest, cheap));
        CHECK.refused("with one that costs 1, ahead", Check.STATE, () -> mill.compose(cheap, dearest));
        CHECK.refused("with itself", Check.STATE, () -> mill.compose(dearest, dearest));
        mill.type(1);
        int twice = mill.join(dearest, dearest);
        mill.type(1);
        CHECK.due("ways may cost more", 2000000, () -> mill.cost(twice, false));
        CHECK.due("none of them is made", 22, () -> mill.pair(2, 1, 1));
        CHECK.due("other letters do not meet", 1000, () -> mill.size(mill.compose(dearest, 22)));
    }

    /** Two arcs cost too much although there is no way to both. */
    private static void checkArcsWithoutAWay() {
        AffixWorks mill = new AffixWorks();
        int dearest = dearest(mill);
        int behind = mill.join(mill.pair(5, 5, 0), dearest);
        int ahead = mill.join(mill.pair(1, 1, 1), mill.pair(6, 6, 0));
        CHECK.refused("of whatever states", Check.STATE, () -> mill.compose(behind, ahead));
        CHECK.due("it is not made", 23, () -> mill.compose(ahead, ahead));
    }

    /** Empty letters never meet. */
    private static void checkArcsThatDoNotMeet() {
        AffixWorks mill = new AffixWorks();
        int dearest = dearest(mill);
        int away = mill.compose(dearest, mill.pair(1, 8, 0));
        CHECK.same("moves cost what they cost", Mills.show(mill, away), "2 [1] 0:1/8$1000000>1");
        CHECK.due("one and the other", 4004, () -> mill.size(mill.compose(away, mill.turn(away))));
    }
}
