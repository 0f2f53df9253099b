/** Promise 10: clear. */
public final class Promise10ClearTest {
    private static final int NONE = IslandSolver.NONE;

    public static void main(String[] args) {
        takesAllRowsAway();
        keepsUntilTheNextTime();
        keepsOfTheFirstRowAlone();
        Check.end();
    }

    private static void takesAllRowsAway() {
        IslandSolver solver = Worlds.points(3);
        Worlds.alongX(solver, 0, 2, 4, 0);
        Worlds.alongX(solver, 0, NONE, 4, 0);
        Check.same("islands before", solver.count(2), 2);
        solver.step(1);
        float before = solver.of(0, 0);
        Check.same("clear()", solver.clear(), 2);
        Check.same("rows", solver.count(1), 0);
        Check.same("islands", solver.count(2), 3);
        Check.same("island of the last", solver.about(2, 0), 2);
        Check.same("rows of 0", solver.about(0, 3), 0);
        Check.same("V stays", solver.of(0, 0), before);
        Check.index("row 0", solver, () -> solver.ofRow(0, 0));
        Check.same("clear() once more", solver.clear(), 0);
        solver.step(1);
        Check.same("V without rows", solver.of(0, 0), before);
    }

    private static float impulse(IslandSolver solver, int key) {
        return solver.ofRow(solver.row(0, NONE, 0, 0, -100, 100, key), 0);
    }

    private static void keepsUntilTheNextTime() {
        IslandSolver solver = Worlds.points(1);
        Worlds.alongX(solver, 0, NONE, 3, 1);
        solver.step(1);
        solver.clear();
        Check.same("kept", impulse(solver, 1), 3.0f);
        Check.same("another key", impulse(solver, 2), 0.0f);
        solver.clear();
        Check.same("kept of the row that took it", impulse(solver, 1), 3.0f);
        solver.clear();
        solver.clear();
        Check.same("gone when cleared without such a row", impulse(solver, 1), 0.0f);
        Worlds.alongX(solver, 0, NONE, 3, 1);
        Check.same("rows that stand do not change what is kept", impulse(solver, 1), 0.0f);
    }

    private static void keepsOfTheFirstRowAlone() {
        IslandSolver solver = Worlds.points(3);
        Worlds.alongX(solver, 0, NONE, 0, 1);
        Worlds.alongX(solver, 1, NONE, 5, 1);
        Worlds.alongX(solver, 2, NONE, 7, 2);
        solver.step(1);
        Check.same("clear()", solver.clear(), 3);
        Check.same("the first has 0", impulse(solver, 1), 0.0f);
        Check.same("the other key", impulse(solver, 2), 7.0f);
        IslandSolver low = Worlds.points(1);
        Worlds.alongX(low, 0, NONE, 5, -3);
        low.step(1);
        low.clear();
        Check.same("a key below 0", impulse(low, -3), 0.0f);
    }
}
