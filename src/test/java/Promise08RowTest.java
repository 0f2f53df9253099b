/** Promise 8: row. */
public final class Promise08RowTest {
    private static final int NONE = IslandSolver.NONE;

    public static void main(String[] args) {
        makesRows();
        beginsWithTheKeptImpulse();
        beginsWithNothingElse();
        refusesWrongBodies();
        refusesWrongNumbers();
        takesTheEdges();
        refusesTheRowBehindTheLast();
        Check.end();
    }

    private static void makesRows() {
        IslandSolver solver = Worlds.points(3);
        Check.same("the first row", Worlds.alongX(solver, 0, 1, 0, 5), 0);
        Check.same("the same once more", Worlds.alongX(solver, 0, 1, 0, 5), 1);
        Check.same("the other way round", Worlds.alongX(solver, 1, 0, 0, 5), 2);
        Check.same("with NONE", Worlds.alongX(solver, 2, NONE, 0, 5), 3);
        Check.same("how many rows", solver.count(1), 4);
        Check.same("rows of 0", solver.about(0, 3), 3);
        Check.same("rows of 1", solver.about(1, 3), 3);
        Check.same("rows of 2", solver.about(2, 3), 1);
        Check.same("islands", solver.count(2), 2);
        Check.same("a new row wakes nobody", sleepersBehindRow(), 2);
    }

    private static int sleepersBehindRow() {
        IslandSolver solver = Worlds.sleepers(2);
        Worlds.alongX(solver, 0, 1, 0, 0);
        return solver.count(4);
    }

    /** Rows with the impulses 3 (key 7), 5 (key 7), -2 (key 0) and 4 (key -1), cleared. */
    private static IslandSolver cleared() {
        IslandSolver solver = Worlds.points(4);
        Worlds.alongX(solver, 0, NONE, 3, 7);
        Worlds.alongX(solver, 1, NONE, 5, 7);
        Worlds.alongX(solver, 2, NONE, -2, 0);
        Worlds.alongX(solver, 3, NONE, 4, -1);
        solver.step(1);
        Check.same("the impulse of the row with key 7", solver.ofRow(0, 0), 3.0f);
        solver.clear();
        return solver;
    }

    private static float impulse(IslandSolver solver, float low, float high, int key) {
        return solver.ofRow(solver.row(0, 1, 0, 0, low, high, key), 0);
    }

    private static void beginsWithTheKeptImpulse() {
        IslandSolver solver = cleared();
        Check.same("of the first with key 7", impulse(solver, -10, 10, 7), 3.0f);
        Check.same("once more", impulse(solver, -10, 10, 7), 3.0f);
        Check.same("held from above", impulse(solver, -10, 2.5f, 7), 2.5f);
        Check.same("held from below", impulse(solver, 3.5f, 10, 7), 3.5f);
        Check.same("of key 0", impulse(solver, -10, 10, 0), -2.0f);
        Check.same("of no key", impulse(solver, -10, 10, 8), 0.0f);
        Check.same("of a key below 0", impulse(solver, -10, 10, -1), 0.0f);
    }

    private static void beginsWithNothingElse() {
        IslandSolver solver = cleared();
        Check.same("0 is not held within the limits", impulse(solver, 1, 2, 8), 0.0f);
        Check.same("nor with a key below 0", impulse(solver, 1, 2, -1), 0.0f);
        IslandSolver other = Worlds.points(2);
        Worlds.alongX(other, 0, NONE, 3, 7);
        other.step(1);
        Check.same("rows that were not cleared give nothing", impulse(other, -10, 10, 7), 0.0f);
    }

    private static void refusesWrongBodies() {
        IslandSolver solver = Worlds.points(3);
        int[][] wrong = {{-1, 0}, {3, 0}, {0, 3}, {0, -2}, {1, 1}, {-1, -1}, {3, 3}, {-2, NONE},
            {Integer.MAX_VALUE, 0}, {0, Integer.MAX_VALUE}, {Integer.MIN_VALUE, 0}, {0, Integer.MIN_VALUE}};
        for (int[] pair : wrong) {
            String name = "row(" + pair[0] + ", " + pair[1] + ")";
            Check.index(name, solver, () -> solver.row(pair[0], pair[1], 0, 0, 0, 0, 0));
            Check.index(name + ", wrong", solver, () -> solver.row(pair[0], pair[1], 9999, -1, 1, 0, 0));
        }
    }

    private static void refusesWrongNumbers() {
        IslandSolver solver = Worlds.points(3);
        for (float x : Worlds.outside(-1024, 1024)) {
            Check.argument("target " + x, solver, () -> solver.row(0, 1, x, 0, 0, 0, 0));
        }
        for (float x : Worlds.outside(0, 64)) {
            Check.argument("soft " + x, solver, () -> solver.row(0, 1, 0, x, 0, 0, 0));
        }
        for (float x : Worlds.outside(-65536, 65536)) {
            Check.argument("low " + x, solver, () -> solver.row(0, 1, 0, 0, x, 65536, 0));
            Check.argument("high " + x, solver, () -> solver.row(0, 1, 0, 0, -65536, x, 0));
            Check.argument("low and high " + x, solver, () -> solver.row(0, 1, 0, 0, x, x, 0));
        }
        Check.argument("low above high", solver, () -> solver.row(0, 1, 0, 0, Worlds.above(2), 2, 0));
    }

    private static void takesTheEdges() {
        IslandSolver solver = Worlds.points(2);
        Check.same("the lowest", solver.row(0, 1, -1024, 0, -65536, -65536, Integer.MIN_VALUE), 0);
        Check.same("the highest", solver.row(0, 1, 1024, 64, 65536, 65536, Integer.MAX_VALUE), 1);
        Check.same("softness counts", solver.ofRow(1, 2), 64.0f);
    }

    private static void refusesTheRowBehindTheLast() {
        IslandSolver solver = Worlds.points(2);
        for (int i = 0; i < 1024; i++) {
            Check.same("row " + i, Worlds.alongX(solver, 0, 1, 0, i), i);
        }
        Check.state("one more", solver, () -> solver.row(0, 1, 0, 0, 0, 0, 0));
        Check.argument("a wrong one more", solver, () -> solver.row(0, 1, 0, -1, 0, 0, 0));
        Check.index("of a wrong body", solver, () -> solver.row(0, 2, 0, -1, 0, 0, 0));
        solver.step(1);
        Check.same("clear() of all", solver.clear(), 1024);
        Check.same("the first row again", Worlds.alongX(solver, 0, 1, 0, 0), 0);
    }
}
