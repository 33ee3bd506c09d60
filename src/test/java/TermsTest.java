/** What stands under "Terms", its boundaries: calls, trimming, numbers, order, costs. */
public final class TermsTest {
    public static void main(String[] args) {
        Cases.run(TermsTest.class);
    }

    /** 512 calls on one object: 62 that fill it, 449 that look up, and one more. */
    private static AffixWorks behind511Calls(AffixWorks mill, Check check) {
        for (int call = 0; call < 8; call++) {
            mill.type(call);
        }
        for (int call = 0; call < 24; call++) {
            mill.word();
        }
        for (int call = 0; call < 30; call++) {
            mill.learn(call % 6);
        }
        for (int call = 62; call < 511; call++) {
            int machine = call % 24;
            int place = call % 8;
            check.due("call " + call, place, () -> mill.answer(machine, false, 0, place));
        }
        return mill;
    }

    static void terms_call512AnswersAsTheFirst(Check check) {
        AffixWorks mill = behind511Calls(new AffixWorks(), check);
        check.due("mended", 7, () -> mill.mended(23, 7));
        AffixWorks other = behind511Calls(new AffixWorks(), check);
        check.due("guess", 805, () -> other.guess());
        AffixWorks third = behind511Calls(new AffixWorks(), check);
        check.refused("a 25th machine", Check.STATE, () -> third.word());
    }

    /** The dearest call, 480 times. */
    static void terms_480CallsThatLookAt200Pairs(Check check) {
        AffixWorks mill = new AffixWorks();
        int eight = Mills.word(mill, "00000000");
        int many = mill.join(mill.join(eight, eight), mill.join(eight, Mills.word(mill, "0")));
        int first = Bounds.cycle(mill, eight);
        int second = Bounds.cycle(mill, many);
        for (int call = 0; call < 480; call++) {
            int place = call % 10;
            check.due("call " + call, place < 8 ? 0 : 8, () -> mill.apart(first, second, place));
        }
    }

    static void terms_480CallsThatAreRefused(Check check) {
        AffixWorks mill = new AffixWorks();
        int most = Bounds.states(mill, 32);
        for (int call = 0; call < 480; call++) {
            check.refused("call " + call, Check.STATE, () -> mill.join(most, most));
        }
        check.due("the next number is free", most + 1, () -> mill.any());
    }

    static void terms_machineThatRelatesNothingIsOneStateThatIsNoEnd(Check check) {
        AffixWorks mill = new AffixWorks();
        int one = Mills.word(mill, "1");
        int two = Mills.word(mill, "2");
        int composed = mill.compose(one, two);
        int met = mill.meet(one, two, true);
        int less = mill.meet(one, one, false);
        int joined = mill.join(met, one);
        int united = mill.unite(met, less);
        int turned = mill.turn(met);
        int side = mill.side(composed, true);
        int least = mill.least(joined);
        for (int machine : new int[] {composed, met, less, joined, united, turned, side, least}) {
            check.shown("machine " + machine, mill, machine, "1 []");
        }
    }

    /** Not even a way from its first state to itself is left, by whatever call it is made. */
    static void terms_machineThatRelatesNothingHasNoWayBackEither(Check check) {
        AffixWorks mill = new AffixWorks();
        int zeros = Bounds.cycle(mill, Bounds.zeros(mill, 1));
        int one = mill.least(mill.join(zeros, Mills.word(mill, "1")));
        int two = mill.least(mill.join(zeros, Mills.word(mill, "2")));
        int met = mill.meet(one, two, true);
        int less = mill.meet(one, one, false);
        int all = mill.least(mill.repeat(mill.any()));
        int lessThanAll = mill.meet(zeros, all, false);
        int composed = mill.compose(one, two);
        check.due("a way back of one that relates something", 2002, () -> mill.size(one));
        for (int machine : new int[] {met, less, lessThanAll, composed}) {
            check.shown("machine " + machine, mill, machine, "1 []");
        }
    }

    static void terms_statesThatNoWayLeadsToAreTrimmed(Check check) {
        AffixWorks mill = new AffixWorks();
        int words = mill.least(mill.unite(Mills.word(mill, "12"), Mills.word(mill, "34")));
        check.due("states of both", 4004, () -> mill.size(words));
        check.shown("of 12 alone", mill, mill.compose(words, Mills.word(mill, "12")),
                "3 [2] 0:1/1$0>1 1:2/2$0>2");
    }

    static void terms_statesThatLeadToNoEndAreTrimmed(Check check) {
        AffixWorks mill = new AffixWorks();
        int words = mill.least(mill.unite(Mills.word(mill, "12"), Mills.word(mill, "13")));
        int other = mill.least(mill.unite(Mills.word(mill, "12"), Mills.word(mill, "144")));
        check.shown("what both have", mill, mill.compose(words, other), "3 [2] 0:1/1$0>1 1:2/2$0>2");
    }

    static void terms_firstStateStaysThoughItIsOnNoWay(Check check) {
        AffixWorks mill = new AffixWorks();
        int nothing = Bounds.nothing(mill);
        check.is("state 0", false, mill.isEnd(nothing, 0));
        check.refusedUnchanged("state 1", Check.INDEX, mill, () -> mill.isEnd(nothing, 1) ? 1 : 0);
        check.refusedUnchanged("arc 0", Check.INDEX, mill, () -> mill.arc(nothing, 0, 0));
    }

    static void terms_arcsThatAreTheSameBecomeOne(Check check) {
        AffixWorks mill = new AffixWorks();
        int free = mill.rule(1, 2, -1, -1, true);
        int twice = mill.compose(free, mill.rule(2, 1, -1, -1, false));
        check.due("1 to 1 by two middle letters", 1008, () -> mill.size(twice));
        check.shown("its arcs", mill, twice, "1 [0] 0:0/0$0>0 0:1/1$0>0 0:2/1$0>0 0:3/3$0>0"
                + " 0:4/4$0>0 0:5/5$0>0 0:6/6$0>0 0:7/7$0>0");
    }

    /** As they were, the states were found by 1, then 2; turned, by 2, then 4. */
    static void terms_statesAreNumberedByUpperLettersFirst(Check check) {
        AffixWorks mill = new AffixWorks();
        int words = mill.least(mill.unite(Mills.word(mill, "157"), Mills.word(mill, "260")));
        int made = mill.compose(words, mill.rule(1, 4, -1, -1, false));
        check.shown("made", mill, made, "6 [5] 0:1/4$0>1 0:2/2$0>2 1:5/5$0>3 2:6/6$0>4"
                + " 3:7/7$0>5 4:0/0$0>5");
        check.shown("turned", mill, mill.turn(made), "6 [5] 0:2/2$0>1 0:4/1$0>2 1:6/6$0>3"
                + " 2:5/5$0>4 3:0/0$0>5 4:7/7$0>5");
    }

    /** Both arcs have the upper letter 1; the lower ones go against the numbers as they were. */
    static void terms_statesAreNumberedByLowerLettersNext(Check check) {
        AffixWorks mill = new AffixWorks();
        int words = mill.least(mill.unite(Mills.word(mill, "25"), Mills.word(mill, "46")));
        int lower = mill.compose(words, mill.rule(2, 7, -1, -1, false));
        int both = mill.compose(mill.rule(2, 1, -1, -1, false), mill.rule(4, 1, -1, -1, false));
        check.shown("as they were", mill, lower, "4 [3] 0:2/7$0>1 0:4/4$0>2 1:5/5$0>3 2:6/6$0>3");
        check.shown("by the lower letters", mill, mill.compose(mill.turn(both), lower),
                "4 [3] 0:1/4$0>1 0:1/7$0>2 1:6/6$0>3 2:5/5$0>3");
    }

    static void terms_statesAreNumberedByTheirOldNumbersLast(Check check) {
        AffixWorks mill = new AffixWorks();
        int one = mill.pair(5, 5, 0);
        int other = mill.pair(3, 3, 0);
        check.shown("the first machine first", mill, mill.unite(one, other),
                "5 [3 4] 0:8/8$0>1 0:8/8$0>2 1:5/5$0>3 2:3/3$0>4");
        check.shown("the other way", mill, mill.unite(other, one),
                "5 [3 4] 0:8/8$0>1 0:8/8$0>2 1:3/3$0>3 2:5/5$0>4");
    }

    static void terms_emptyLetterIsBehindAllOthers(Check check) {
        AffixWorks mill = new AffixWorks();
        // The free rule says 1, 7 or nothing for 1 behind 0.
        int free = mill.compose(mill.rule(1, 8, 0, -1, true), mill.rule(1, 7, -1, -1, true));
        StringBuilder arcs = new StringBuilder();
        for (int arc = 0; arc < mill.size(free) % 1000; arc++) {
            int at = arc;
            if (mill.arc(free, at, 0) == 1 && mill.arc(free, at, 1) == 1) {
                arcs.append(mill.arc(free, at, 2));
            }
        }
        check.same("the lower letters of 1", arcs.toString(), "178");
    }

    static void terms_severalWaysCostTheLeast(Check check) {
        AffixWorks mill = new AffixWorks();
        int ways = mill.unite(mill.pair(1, 2, 100), mill.unite(mill.pair(1, 2, 7), mill.pair(1, 2, 8)));
        mill.type(1);
        check.due("down", 7, () -> mill.cost(ways, false));
        Mills.retype(mill, "2");
        check.due("up", 7, () -> mill.cost(ways, true));
        check.same("one answer", Mills.answers(mill, ways, true), "1: 1");
    }

    static void terms_wordsOf0To8LettersAreLookedUp(Check check) {
        AffixWorks mill = new AffixWorks();
        int all = mill.repeat(mill.any());
        for (int length = 0; length <= 8; length++) {
            String word = "76543210".substring(0, length);
            Mills.retype(mill, word);
            check.same("answers", Mills.answers(mill, all, false), "1: " + word);
            check.same("answers up", Mills.answers(mill, all, true), "1: " + word);
        }
    }

    static void terms_machinesStayAsTheyWereMade(Check check) {
        AffixWorks mill = new AffixWorks();
        int first = mill.pair(1, 2, 3);
        String shown = Mills.show(mill, first);
        int second = mill.repeat(first);
        String repeated = Mills.show(mill, second);
        mill.join(first, second);
        mill.unite(second, first);
        mill.compose(first, mill.turn(first));
        mill.side(second, true);
        check.shown("the first", mill, first, shown);
        check.shown("the second", mill, second, repeated);
    }
}
