/** Promise 3: lean. */
public final class Promise03LeanTest {
    public static void main(String[] args) {
        changesTheInertia();
        countsInRows();
        wakes();
        refusesWrongCalls();
        Check.end();
    }

    private static void changesTheInertia() {
        IslandSolver solver = new IslandSolver();
        solver.body(1, 2, 3, 4);
        solver.body(1, 2, 3, 4);
        solver.lean(1, 4, -4, 0.5f);
        float[] due = {1, 2, 3, 4, 4, -4, 0.5f};
        for (int what = 6; what < 13; what++) {
            Check.same("of(1, " + what + ") behind lean", solver.of(1, what), due[what - 6]);
        }
        for (int what = 10; what < 13; what++) {
            Check.same("of(0, " + what + ") of another body", solver.of(0, what), 0.0f);
        }
        solver.lean(1, -4, 4, 0);
        Check.same("xy behind a second lean", solver.of(1, 10), -4.0f);
        Check.same("yz behind a second lean", solver.of(1, 11), 4.0f);
        Check.same("zx behind a second lean", solver.of(1, 12), 0.0f);
    }

    /** p = 1, 10, 16: I p = 2 + 5 + 4, 0.5 + 30 - 16, 0.25 - 10 + 64. */
    private static void countsInRows() {
        IslandSolver solver = new IslandSolver();
        solver.body(0, 2, 3, 4);
        solver.vector(1, 1, 10, 16);
        solver.row(0, IslandSolver.NONE, 0, 0, 1, 1, 0);
        solver.lean(0, 0.5f, -1, 0.25f);
        Check.same("stiffness as it leans now", solver.ofRow(0, 2), 11.0f + 145.0f + 868.0f);
        solver.settings(1, 1, 0, 0);
        solver.step(1);
        Check.same("spin x", solver.of(0, 3), 11.0f);
        Check.same("spin y", solver.of(0, 4), 14.5f);
        Check.same("spin z", solver.of(0, 5), 54.25f);
    }

    private static void wakes() {
        IslandSolver solver = Worlds.sleepers(2);
        Check.same("asleep before", solver.count(4), 2);
        solver.lean(0, 0, 0, 0);
        Check.same("asleep behind lean", solver.about(0, 1), 0);
        Check.same("quiet behind lean", solver.about(0, 2), 0);
        Check.same("the other one sleeps on", solver.about(1, 1), 1);
        Check.same("the other one's quiet", solver.about(1, 2), 1);
    }

    private static void refusesWrongCalls() {
        IslandSolver solver = Worlds.sleepers(2);
        for (int body : new int[] {-1, 2, Integer.MIN_VALUE, Integer.MAX_VALUE}) {
            Check.index("lean of body " + body, solver, () -> solver.lean(body, 0, 0, 0));
            Check.index("lean of body " + body + ", wrong", solver, () -> solver.lean(body, 5, 0, 0));
        }
        for (float x : Worlds.outside(-4, 4)) {
            Check.argument("xy " + x, solver, () -> solver.lean(0, x, 0, 0));
            Check.argument("yz " + x, solver, () -> solver.lean(0, 0, x, 0));
            Check.argument("zx " + x, solver, () -> solver.lean(0, 0, 0, x));
        }
    }
}
