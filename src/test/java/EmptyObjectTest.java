/** Every call on an object without bodies and rows, and on one without rows. */
public final class EmptyObjectTest {
    private static final int NONE = IslandSolver.NONE;

    public static void main(String[] args) {
        hasNoBody();
        hasNoRow();
        answersAllElse();
        hasNothingThatMoves();
        keepsNothing();
        Check.end();
    }

    private static void hasNoBody() {
        IslandSolver solver = new IslandSolver();
        for (int i : new int[] {0, NONE, 1, Integer.MIN_VALUE, Integer.MAX_VALUE}) {
            Check.index("lean " + i, solver, () -> solver.lean(i, 0, 0, 0));
            Check.index("set " + i, solver, () -> solver.set(i, 0, 0, 0, 0, 0, 0));
            Check.index("gain " + i, solver, () -> solver.gain(i, i, 0, 0, 0));
            Check.index("wake " + i, solver, () -> solver.wake(i));
            Check.index("row " + i, solver, () -> solver.row(i, NONE, 0, 0, 0, 0, 0));
            Check.index("rub " + i, solver, () -> solver.rub(i, NONE, 0, 0, 0, 0));
            Check.index("of " + i, solver, () -> solver.of(i, 6));
            Check.index("about " + i, solver, () -> solver.about(i, 0));
            Check.index("ofRow " + i, solver, () -> solver.ofRow(i, 0));
        }
        Check.index("gain(0, -1): nothing from 0 on", solver, () -> solver.gain(0, -1, 0, 0, 0));
    }

    private static void hasNoRow() {
        IslandSolver solver = Worlds.points(2);
        for (int i : new int[] {0, NONE, 1}) {
            Check.index("ofRow " + i, solver, () -> solver.ofRow(i, 0));
            Check.index("rub at " + i, solver, () -> solver.rub(0, 1, 0, i, 0, 0));
            Check.index("rub with NONE at " + i, solver, () -> solver.rub(0, NONE, 0, i, 0, 0));
        }
        Check.same("clear() without rows", solver.clear(), 0);
        Check.same("a step without rows", solver.step(1), 2);
    }

    private static void answersAllElse() {
        IslandSolver solver = new IslandSolver();
        solver.vector(0, 1, 2, 3);
        solver.settings(16, 0, 64, 1);
        Check.same("workers", solver.workers(8), 1);
        Check.same("step(20) with 8 workers and no island", solver.step(20), 0);
        Check.same("steps are counted all the same", solver.count(5), 20);
        Check.same("clear()", solver.clear(), 0);
        Check.same("clear() once more", solver.clear(), 0);
        Check.same("motion()", solver.motion(), 0.0f);
        for (int what : new int[] {0, 1, 2, 3, 4, 6}) {
            Check.same("count(" + what + ")", solver.count(what), 0);
        }
        Check.same("the first body", solver.body(1, 0, 0, 0), 0);
        Check.same("the first row", solver.row(0, NONE, 0, 0, 0, 0, 0), 0);
        Check.same("the pad that was filled before", solver.ofRow(0, 2), 14.0f);
    }

    private static void hasNothingThatMoves() {
        IslandSolver solver = new IslandSolver();
        solver.body(0, 0, 0, 0);
        solver.body(0, 0, 0, 0);
        solver.set(0, 3, 0, 0, 0, 0, 0);
        Worlds.alongX(solver, 0, 1, 0, 0);
        Worlds.alongX(solver, 1, NONE, 0, 0);
        solver.settings(8, 1, 64, 1);
        Check.same("islands", solver.count(2), 0);
        Check.same("step(20) without an island", solver.step(20), 0);
        Check.same("islands that sleep", solver.count(3), 0);
        Check.same("bodies that are asleep", solver.count(4), 0);
        Check.same("dead rows", solver.count(6), 2);
        Check.same("gain of nothing that is movable", solver.gain(0, 1, 1, 1, 1), 0);
        Check.same("motion of nothing that is movable", solver.motion(), 0.0f);
        Check.same("V stays", solver.of(0, 0), 3.0f);
    }

    private static void keepsNothing() {
        for (int key : new int[] {0, 1, -1, Integer.MIN_VALUE, Integer.MAX_VALUE}) {
            IslandSolver solver = Worlds.points(1);
            solver.vector(0, 1, 0, 0);
            Check.same("a row, never cleared before", solver.row(0, NONE, 0, 0, 1, 2, key), 0);
            Check.same("its impulse, key " + key, solver.ofRow(0, 0), 0.0f);
            Check.same("the impulse of one that rubs", solver.ofRow(solver.rub(0, NONE, 0, 0, 1, key), 0), 0.0f);
        }
    }
}
