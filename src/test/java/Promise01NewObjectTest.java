/** Promise 1, its boundaries: a mill without machines, with no letter typed. */
public final class Promise01NewObjectTest {
    public static void main(String[] args) {
        Cases.run(Promise01NewObjectTest.class);
    }

    static void promise01_machine0IsRefusedByEachCallThatMakes(Check check) {
        AffixWorks mill = new AffixWorks();
        check.refusedUnchanged("join", Check.INDEX, mill, () -> mill.join(0, 0));
        check.refusedUnchanged("unite", Check.INDEX, mill, () -> mill.unite(0, 0));
        check.refusedUnchanged("repeat", Check.INDEX, mill, () -> mill.repeat(0));
        check.refusedUnchanged("turn", Check.INDEX, mill, () -> mill.turn(0));
        check.refusedUnchanged("compose", Check.INDEX, mill, () -> mill.compose(0, 0));
        check.refusedUnchanged("side", Check.INDEX, mill, () -> mill.side(0, true));
        check.refusedUnchanged("least", Check.INDEX, mill, () -> mill.least(0));
        check.refusedUnchanged("meet", Check.INDEX, mill, () -> mill.meet(0, 0, true));
    }

    static void promise01_machine0IsRefusedByEachCallThatLooks(Check check) {
        AffixWorks mill = new AffixWorks();
        check.refusedUnchanged("size", Check.INDEX, mill, () -> mill.size(0));
        check.refusedUnchanged("isEnd", Check.INDEX, mill, () -> mill.isEnd(0, 0) ? 1 : 0);
        check.refusedUnchanged("arc", Check.INDEX, mill, () -> mill.arc(0, 0, 0));
        check.refusedUnchanged("isPlain", Check.INDEX, mill, () -> mill.isPlain(0) ? 1 : 0);
        check.refusedUnchanged("answer", Check.INDEX, mill, () -> mill.answer(0, false, 0, 0));
        check.refusedUnchanged("answers", Check.INDEX, mill, () -> mill.answers(0, false));
        check.refusedUnchanged("cost", Check.INDEX, mill, () -> mill.cost(0, true));
        check.refusedUnchanged("best", Check.INDEX, mill, () -> mill.best(0, true, 0));
        check.refusedUnchanged("changes", Check.INDEX, mill, () -> mill.changes(0));
        check.refusedUnchanged("mended", Check.INDEX, mill, () -> mill.mended(0, 0));
        check.refusedUnchanged("apart", Check.INDEX, mill, () -> mill.apart(0, 0, 0));
    }

    static void promise01_firstMachineIsNumber0(Check check) {
        check.due("pair", 0, () -> new AffixWorks().pair(0, 0, 0));
        check.due("word", 0, () -> new AffixWorks().word());
        check.due("any", 0, () -> new AffixWorks().any());
        check.due("rule", 0, () -> new AffixWorks().rule(0, 1, -1, -1, false));
    }

    static void promise01_noLetterIsTyped(Check check) {
        check.due("clear", 0, () -> new AffixWorks().clear());
        check.due("the first letter", 1, () -> new AffixWorks().type(0));
        check.due("a letter of what is ruled", 8, () -> new AffixWorks().ruled(0, 1, -1, -1, 0));
        AffixWorks mill = new AffixWorks();
        mill.word();
        check.shown("the word", mill, 0, "1 [0]");
    }

    static void promise01_noWordIsLearnt(Check check) {
        AffixWorks mill = new AffixWorks();
        check.due("guess of the empty word", -1, () -> mill.guess());
        mill.type(0);
        check.due("guess of a word", -1, () -> mill.guess());
        check.due("the first that is learnt", 1, () -> mill.learn(0));
    }

    static void promise01_secondObjectHasNothingOfTheFirst(Check check) {
        AffixWorks first = Bounds.withMachines(24);
        AffixWorks second = new AffixWorks();
        check.refused("its machine 0", Check.INDEX, () -> second.size(0));
        check.due("its letters", 0, () -> second.clear());
        second.type(2);
        check.due("its guess", -1, () -> second.guess());
        check.due("its first machine", 0, () -> second.any());
        check.due("its first lesson", 1, () -> second.learn(5));
        check.due("the first has its letters still", 2, () -> first.clear());
        check.due("the first has its lesson still", 2, () -> first.learn(0));
    }

    static void promise01_constantsAreMinus1And8(Check check) {
        check.due("NONE", -1, () -> AffixWorks.NONE);
        check.due("EMPTY", 8, () -> AffixWorks.EMPTY);
    }
}
