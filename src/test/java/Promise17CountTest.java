/** Promise 17: count. */
public final class Promise17CountTest {
    private static void counts(String when, IslandSolver solver, int... due) {
        for (int what = 0; what < 7; what++) {
            Check.same(when + ": count(" + what + ")", solver.count(what), due[what]);
        }
    }

    public static void main(String[] args) {
        IslandSolver solver = Worlds.points(4);
        solver.body(0, 0, 0, 0);
        counts("bodies alone", solver, 5, 0, 4, 0, 0, 0, 0);
        Worlds.alongX(solver, 0, 1, 0, 0);
        Worlds.alongX(solver, 4, IslandSolver.NONE, 0, 0);
        solver.vector(0, 0, 0, 0);
        solver.row(2, 4, 0, 0, 0, 0, 0);
        solver.row(2, 4, 0, 1, 0, 0, 0);
        counts("with rows", solver, 5, 4, 3, 0, 0, 0, 2);
        solver.settings(8, 1, 1, 1);
        solver.set(3, 9, 0, 0, 0, 0, 0);
        solver.step(2);
        counts("behind steps", solver, 5, 4, 3, 2, 3, 2, 2);
        solver.wake(1);
        counts("one is awake", solver, 5, 4, 3, 1, 2, 2, 2);
        solver.clear();
        counts("cleared", solver, 5, 0, 4, 2, 2, 2, 0);
        solver.step(20);
        counts("asleep but for one", solver, 5, 0, 4, 3, 3, 22, 0);
        leaningMakesDead();
        for (int what : new int[] {-1, 7, Integer.MIN_VALUE, Integer.MAX_VALUE}) {
            Check.index("count(" + what + ")", solver, () -> solver.count(what));
        }
        Check.end();
    }

    private static void leaningMakesDead() {
        IslandSolver solver = new IslandSolver();
        solver.body(0, 1, 1, 1);
        solver.vector(1, 1, 1, 0);
        solver.row(0, IslandSolver.NONE, 0, 0, 0, 0, 0);
        Check.same("dead rows before leaning", solver.count(6), 0);
        solver.lean(0, -1, 0, 0);
        Check.same("dead rows as things are now", solver.count(6), 1);
        solver.lean(0, 0, 0, 0);
        Check.same("dead rows behind it", solver.count(6), 0);
    }
}
