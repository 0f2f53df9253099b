/**
 * Each number of a body, a row or a place: the last one that there is and the first one that there
 * is not, on each side; and the same of the calls that take a whole number within a range.
 */
public final class PlacesTest {
    private static final int NONE = IslandSolver.NONE;
    private static final int BODIES = 3;
    private static final int ROWS = 2;

    /** A call with one whole number to be tried, all else in it being right. */
    interface Trial {
        void with(IslandSolver solver, int i);
    }

    public static void main(String[] args) {
        ofBodies();
        ofPairs();
        ofGain();
        ofRows();
        ofPlaces();
        ofWholeNumbers();
        followsWhatThereIs();
        Check.end();
    }

    /** Three bodies that are asleep, and two rows of 0 and 1. */
    private static IslandSolver world() {
        IslandSolver solver = Worlds.sleepers(BODIES);
        Worlds.alongX(solver, 0, 1, 0, 1);
        Worlds.alongX(solver, 0, 1, 0, 2);
        return solver;
    }

    private static int[] outside(int low, int high) {
        return new int[] {low - 1, high + 1, low - 2, high + 2, Integer.MIN_VALUE, Integer.MAX_VALUE};
    }

    private static void taken(String name, int low, int high, Trial call) {
        for (int i = low; i <= high; i++) {
            int number = i;
            IslandSolver solver = world();
            Check.taken(name + " " + number, () -> call.with(solver, number));
        }
    }

    private static void places(String name, int low, int high, Trial call) {
        taken(name, low, high, call);
        for (int number : outside(low, high)) {
            IslandSolver solver = world();
            Check.index(name + " " + number, solver, () -> call.with(solver, number));
        }
    }

    private static void wholes(String name, int low, int high, Trial call) {
        taken(name, low, high, call);
        for (int number : outside(low, high)) {
            IslandSolver solver = world();
            Check.argument(name + " " + number, solver, () -> call.with(solver, number));
        }
    }

    private static void ofBodies() {
        places("lean", 0, BODIES - 1, (s, i) -> s.lean(i, 1, 1, 1));
        places("set", 0, BODIES - 1, (s, i) -> s.set(i, 1, 1, 1, 1, 1, 1));
        places("wake", 0, BODIES - 1, (s, i) -> s.wake(i));
        places("of", 0, BODIES - 1, (s, i) -> s.of(i, 0));
        places("about", 0, BODIES - 1, (s, i) -> s.about(i, 0));
    }

    /** Of two bodies of a row, the second alone can be NONE, and NONE alone of what is below 0. */
    private static void ofPairs() {
        places("a of a row with NONE", 0, BODIES - 1, (s, i) -> s.row(i, NONE, 0, 0, 0, 0, 0));
        places("a of a row with 2", 0, BODIES - 2, (s, i) -> s.row(i, 2, 0, 0, 0, 0, 0));
        places("b of a row with 2, NONE too", NONE, 1, (s, i) -> s.row(2, i, 0, 0, 0, 0, 0));
        taken("b of a row with 0, up to the last", 1, BODIES - 1, (s, i) -> s.row(0, i, 0, 0, 0, 0, 0));
        for (int i = NONE; i <= BODIES; i++) {
            int both = i;
            IslandSolver solver = world();
            Check.index("a and b " + both, solver, () -> solver.row(both, both, 0, 0, 0, 0, 0));
            Check.index("a and b of rub " + both, solver, () -> solver.rub(both, both, 0, 0, 0, 0));
        }
        IslandSolver solver = world();
        Check.index("a of rub NONE", solver, () -> solver.rub(NONE, 1, 0, 0, 0, 0));
        for (int wrong : new int[] {BODIES, -2, Integer.MIN_VALUE, Integer.MAX_VALUE}) {
            Check.index("a of rub " + wrong, solver, () -> solver.rub(wrong, 1, 0, 0, 0, 0));
            Check.index("b of rub " + wrong, solver, () -> solver.rub(0, wrong, 0, 0, 0, 0));
            Check.index("b of row " + wrong, solver, () -> solver.row(0, wrong, 0, 0, 0, 0, 0));
        }
    }

    private static void ofGain() {
        places("from, up to the last", 0, BODIES - 1, (s, i) -> s.gain(i, BODIES - 1, 1, 1, 1));
        places("to, from the first", 0, BODIES - 1, (s, i) -> s.gain(0, i, 1, 1, 1));
        places("from and to", 0, BODIES - 1, (s, i) -> s.gain(i, i, 1, 1, 1));
        places("from, up to 1: from is not above to", 0, 1, (s, i) -> s.gain(i, 1, 1, 1, 1));
        places("to, from 1: to is not below from", 1, BODIES - 1, (s, i) -> s.gain(1, i, 1, 1, 1));
    }

    private static void ofRows() {
        places("at", 0, ROWS - 1, (s, i) -> s.rub(0, 1, 0, i, 1, 0));
        places("ofRow", 0, ROWS - 1, (s, i) -> s.ofRow(i, 0));
    }

    private static void ofPlaces() {
        places("vector", 0, 2, (s, i) -> s.vector(i, 1, 1, 1));
        places("of(0, what)", 0, 12, (s, i) -> s.of(0, i));
        places("about(0, what)", 0, 3, (s, i) -> s.about(0, i));
        places("ofRow(0, what)", 0, 2, (s, i) -> s.ofRow(0, i));
        places("count(what)", 0, 6, (s, i) -> s.count(i));
    }

    private static void ofWholeNumbers() {
        wholes("workers", 1, 8, (s, i) -> s.workers(i));
        wholes("step", 1, 20, (s, i) -> s.step(i));
        wholes("rounds", 1, 16, (s, i) -> s.settings(i, 1, 1, 1));
        wholes("still", 0, 100, (s, i) -> s.settings(1, 1, 1, i));
    }

    /** The first number behind the last one is there as soon as it is made, and gone when it is cleared. */
    private static void followsWhatThereIs() {
        IslandSolver solver = world();
        Check.index("body 3 before it is made", solver, () -> solver.wake(3));
        Check.index("a row of 0 and 3 before", solver, () -> solver.row(0, 3, 0, 0, 0, 0, 0));
        solver.body(1, 0, 0, 0);
        Check.taken("body 3", () -> solver.wake(3));
        Check.taken("a row of 0 and 3", () -> solver.row(0, 3, 0, 0, 0, 0, 0));
        Check.taken("row 2", () -> solver.ofRow(2, 0));
        solver.clear();
        Check.index("row 0 when cleared", solver, () -> solver.ofRow(0, 0));
        Check.index("row 2 when cleared", solver, () -> solver.ofRow(2, 0));
        Check.index("rub at row 0 when cleared", solver, () -> solver.rub(0, 1, 0, 0, 1, 0));
        Worlds.alongX(solver, 0, 1, 0, 1);
        Check.taken("row 0 made anew", () -> solver.ofRow(0, 0));
        Check.index("row 1, which is not made anew", solver, () -> solver.ofRow(1, 0));
        Check.taken("bodies stay when rows are cleared", () -> solver.wake(3));
    }
}
