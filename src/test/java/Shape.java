/** What must hold of each machine, whatever it relates, read by the face alone. */
final class Shape {
    private final int states;
    private final int[][] arcs;
    private final boolean[] ends;

    Shape(AffixWorks mill, int machine) {
        int size = mill.size(machine);
        states = size / 1000;
        arcs = new int[size % 1000][5];
        ends = new boolean[states];
        for (int state = 0; state < states; state++) {
            ends[state] = mill.isEnd(machine, state);
        }
        for (int arc = 0; arc < arcs.length; arc++) {
            for (int what = 0; what < 5; what++) {
                arcs[arc][what] = mill.arc(machine, arc, what);
            }
        }
    }

    /** What does not hold; "none" if all does. */
    String fault() {
        if (states < 1 || states > 32 || arcs.length > 160) {
            return "its size";
        }
        if (!isInOrder()) {
            return "the order of its arcs";
        }
        if (!isNumberedAsFound()) {
            return "the numbers of its states";
        }
        if (!isTrimmed()) {
            return "a state that leads to no end";
        }
        if (!isEachWayBackLong(1) || !isEachWayBackLong(2)) {
            return "a way back whose letters are all empty";
        }
        return hasGoodArcs() ? "none" : "a letter or a cost";
    }

    private boolean hasGoodArcs() {
        for (int[] arc : arcs) {
            if (arc[1] < 0 || arc[1] > 8 || arc[2] < 0 || arc[2] > 8 || arc[3] < 0 || arc[3] > 1000000) {
                return false;
            }
        }
        return true;
    }

    /** By from, upper, lower, to; no two are the same in all of them. */
    private boolean isInOrder() {
        for (int arc = 1; arc < arcs.length; arc++) {
            if (key(arcs[arc - 1]) >= key(arcs[arc])) {
                return false;
            }
        }
        return true;
    }

    private static int key(int[] arc) {
        return ((arc[0] * 9 + arc[1]) * 9 + arc[2]) * 32 + arc[4];
    }

    /** State by state, by the arcs in their order, the states that are new are the next ones. */
    private boolean isNumberedAsFound() {
        int found = 1;
        for (int[] arc : arcs) {
            if (arc[0] >= found || arc[4] > found) {
                return false;
            }
            found = Math.max(found, arc[4] + 1);
        }
        return found == states;
    }

    private boolean isTrimmed() {
        boolean[] leads = ends.clone();
        for (int round = 0; round < states; round++) {
            for (int[] arc : arcs) {
                leads[arc[0]] |= leads[arc[4]];
            }
        }
        boolean isNothing = states == 1 && arcs.length == 0;
        for (boolean does : leads) {
            if (!does && !isNothing) {
                return false;
            }
        }
        return true;
    }

    /** No state comes again by arcs whose letter of a side is empty. */
    private boolean isEachWayBackLong(int side) {
        boolean[][] reaches = new boolean[states][states];
        for (int round = 0; round < states; round++) {
            for (int[] arc : arcs) {
                if (arc[side] == AffixWorks.EMPTY) {
                    reaches[arc[0]][arc[4]] = true;
                    for (int state = 0; state < states; state++) {
                        reaches[arc[0]][state] |= reaches[arc[4]][state];
                    }
                }
            }
        }
        for (int state = 0; state < states; state++) {
            if (reaches[state][state]) {
                return false;
            }
        }
        return true;
    }
}
