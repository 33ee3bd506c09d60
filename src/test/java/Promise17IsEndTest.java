/** Promise 17, its boundaries: machines and states that exist. */
public final class Promise17IsEndTest {
    public static void main(String[] args) {
        Cases.run(Promise17IsEndTest.class);
    }

    static void promise17_noMachineIsRefused(Check check) {
        Bounds.noMachineIsRefused(check, (mill, machine) -> mill.isEnd(machine, 0) ? 1 : 0);
    }

    static void promise17_of3_0To2AreTaken_minus1And3AreRefused(Check check) {
        Bounds.machinesBesideAreRefused(check, (mill, machine) -> mill.isEnd(machine, 1) ? 1 : 0);
    }

    static void promise17_of24_23IsTaken_24IsRefused(Check check) {
        Bounds.machine23IsTaken24Refused(check, (mill, machine) -> mill.isEnd(machine, 1) ? 1 : 0);
    }

    static void promise17_ofOneState_0IsTaken_minus1And1AreRefused(Check check) {
        AffixWorks mill = new AffixWorks();
        mill.word();
        int nothing = Bounds.nothing(mill);
        check.is("the empty word", true, mill.isEnd(0, 0));
        check.is("nothing", false, mill.isEnd(nothing, 0));
        for (int machine : new int[] {0, nothing}) {
            for (int state : new int[] {-1, 1}) {
                check.refusedUnchanged("state " + state, Check.INDEX, mill,
                        () -> mill.isEnd(machine, state) ? 1 : 0);
            }
        }
    }

    static void promise17_ofTwoStates_1IsTaken_2IsRefused(Check check) {
        AffixWorks mill = new AffixWorks();
        mill.pair(1, 2, 3);
        check.is("state 0", false, mill.isEnd(0, 0));
        check.is("state 1", true, mill.isEnd(0, 1));
        check.refusedUnchanged("state 2", Check.INDEX, mill, () -> mill.isEnd(0, 2) ? 1 : 0);
    }

    static void promise17_of32States_31IsTaken_32IsRefused(Check check) {
        AffixWorks mill = new AffixWorks();
        int most = Bounds.states(mill, 32);
        for (int state = 0; state < 31; state++) {
            check.is("state " + state, false, mill.isEnd(most, state));
        }
        check.is("state 31", true, mill.isEnd(most, 31));
        check.refusedUnchanged("state 32", Check.INDEX, mill, () -> mill.isEnd(most, 32) ? 1 : 0);
        check.refusedUnchanged("state -1", Check.INDEX, mill, () -> mill.isEnd(most, -1) ? 1 : 0);
    }

    static void promise17_endsAreAmongTheOthers(Check check) {
        AffixWorks mill = new AffixWorks();
        int five = Bounds.cycle(mill, Bounds.zeros(mill, 5));
        int six = Bounds.cycle(mill, Bounds.zeros(mill, 6));
        int all = Bounds.cycle(mill, Bounds.zeros(mill, 1));
        int neither = mill.meet(all, mill.unite(five, six), false);
        for (int state = 0; state < 30; state++) {
            check.is("state " + state, state % 5 != 0 && state % 6 != 0, mill.isEnd(neither, state));
        }
        check.refusedUnchanged("state 30", Check.INDEX, mill, () -> mill.isEnd(neither, 30) ? 1 : 0);
    }

    static void promise17_statesFarAwayAreRefused(Check check) {
        AffixWorks mill = new AffixWorks();
        mill.pair(1, 2, 3);
        for (int state : Bounds.FAR) {
            check.refusedUnchanged("state " + state, Check.INDEX, mill, () -> mill.isEnd(0, state) ? 1 : 0);
        }
        for (int state : new int[] {32, 33, 64}) {
            check.refusedUnchanged("state " + state, Check.INDEX, mill, () -> mill.isEnd(0, state) ? 1 : 0);
        }
    }

    static void promise17_statesOfALargerMachineAreRefused(Check check) {
        AffixWorks mill = new AffixWorks();
        mill.pair(1, 2, 3);
        Bounds.states(mill, 32);
        check.refusedUnchanged("state 2 of two", Check.INDEX, mill, () -> mill.isEnd(0, 2) ? 1 : 0);
        check.refusedUnchanged("state 31 of two", Check.INDEX, mill, () -> mill.isEnd(0, 31) ? 1 : 0);
    }
}
