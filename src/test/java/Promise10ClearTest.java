/** Promise 10: clear. */
public final class Promise10ClearTest {
    private static final int NONE = IslandSolver.NONE;

    public static void main(String[] args) {
        takesAllRowsAway();
        keepsUntilTheNextTime();
        keepsOfTheFirstRowAlone();
        keepsForKeysFromZeroOn();
        keepsOfRowsThatRub();
        keepsAtTheLimits();
        Check.end();
    }

    private static void takesAllRowsAway() {
        IslandSolver solver = Worlds.points(3);
        Worlds.alongX(solver, 0, 2, 4, 0);
        Worlds.alongX(solver, 0, NONE, 4, 0);
        Check.same("islands before", solver.count(2), 2);
        solver.step(1);
        float before = solver.of(0, 0);
        Check.same("clear()", solver.clear(), 2);
        Check.same("rows", solver.count(1), 0);
        Check.same("islands", solver.count(2), 3);
        Check.same("island of the last", solver.about(2, 0), 2);
        Check.same("rows of 0", solver.about(0, 3), 0);
        Check.same("V stays", solver.of(0, 0), before);
        Check.index("row 0", solver, () -> solver.ofRow(0, 0));
        Check.same("clear() once more", solver.clear(), 0);
        solver.step(1);
        Check.same("V without rows", solver.of(0, 0), before);
    }

    private static float impulse(IslandSolver solver, int key) {
        return solver.ofRow(solver.row(0, NONE, 0, 0, -100, 100, key), 0);
    }

    private static void keepsUntilTheNextTime() {
        IslandSolver solver = Worlds.points(1);
        Worlds.alongX(solver, 0, NONE, 3, 1);
        solver.step(1);
        solver.clear();
        Check.same("kept", impulse(solver, 1), 3.0f);
        Check.same("another key", impulse(solver, 2), 0.0f);
        solver.clear();
        Check.same("kept of the row that took it", impulse(solver, 1), 3.0f);
        solver.clear();
        solver.clear();
        Check.same("gone when cleared without such a row", impulse(solver, 1), 0.0f);
        Worlds.alongX(solver, 0, NONE, 3, 1);
        Check.same("rows that stand do not change what is kept", impulse(solver, 1), 0.0f);
    }

    private static void keepsOfTheFirstRowAlone() {
        IslandSolver solver = Worlds.points(3);
        Worlds.alongX(solver, 0, NONE, 0, 1);
        Worlds.alongX(solver, 1, NONE, 5, 1);
        Worlds.alongX(solver, 2, NONE, 7, 2);
        solver.step(1);
        Check.same("clear()", solver.clear(), 3);
        Check.same("the first has 0", impulse(solver, 1), 0.0f);
        Check.same("the other key", impulse(solver, 2), 7.0f);
        IslandSolver low = Worlds.points(1);
        Worlds.alongX(low, 0, NONE, 5, -3);
        low.step(1);
        low.clear();
        Check.same("a key below 0", impulse(low, -3), 0.0f);
    }

    private static void keepsForKeysFromZeroOn() {
        int[] keys = {0, 1, Integer.MAX_VALUE, -1, -2, Integer.MIN_VALUE};
        float[] due = {5, 5, 5, 0, 0, 0};
        for (int i = 0; i < keys.length; i++) {
            IslandSolver solver = Worlds.points(1);
            Worlds.alongX(solver, 0, NONE, 5, keys[i]);
            solver.step(1);
            Check.same("the impulse before, key " + keys[i], solver.ofRow(0, 0), 5.0f);
            solver.clear();
            Check.same("kept of key " + keys[i], impulse(solver, keys[i]), due[i]);
        }
    }

    /** A row that rubs is a row: it can be the first with a key, and takes what another row had. */
    private static void keepsOfRowsThatRub() {
        IslandSolver solver = Worlds.points(1);
        solver.vector(0, 0, 1, 0);
        solver.row(0, NONE, 4, 0, 0, 100, 1);
        solver.vector(0, 1, 0, 0);
        solver.rub(0, NONE, 3, 0, 1, 2);
        solver.row(0, NONE, 5, 0, -100, 100, 2);
        solver.settings(1, 1, 0, 0);
        solver.step(1);
        Check.same("the impulse that rubs", solver.ofRow(1, 0), 3.0f);
        Check.same("clear()", solver.clear(), 3);
        Check.same("kept of the row that rubs", impulse(solver, 2), 3.0f);
        Check.same("kept of the row that presses", impulse(solver, 1), 4.0f);
    }

    private static float impulseWithin(float low, float high) {
        IslandSolver solver = Worlds.points(1);
        Worlds.alongX(solver, 0, NONE, 5, 1);
        solver.step(1);
        solver.clear();
        return solver.ofRow(solver.row(0, NONE, 0, 0, low, high, 1), 0);
    }

    private static void keepsAtTheLimits() {
        Check.same("just the higher limit", impulseWithin(-5, 5), 5.0f);
        Check.same("just above it", impulseWithin(-5, Worlds.below(5)), Worlds.below(5));
        Check.same("just the lower limit", impulseWithin(5, 10), 5.0f);
        Check.same("just below it", impulseWithin(Worlds.above(5), 10), Worlds.above(5));
        Check.same("both limits", impulseWithin(5, 5), 5.0f);
        Check.same("both limits 0", impulseWithin(0, 0), 0.0f);
        Check.same("both limits below", impulseWithin(-9, -7), -7.0f);
    }
}
