/** Promise 7: vector. */
public final class Promise07VectorTest {
    public static void main(String[] args) {
        isNothingAtFirst();
        goesIntoRows();
        refusesWrongCalls();
        Check.end();
    }

    private static IslandSolver spinning() {
        IslandSolver solver = new IslandSolver();
        solver.body(1, 1, 1, 1);
        solver.body(1, 1, 1, 1);
        solver.set(0, 1, 10, 100, 2, 20, 200);
        solver.set(1, 3, 30, 300, 4, 40, 400);
        return solver;
    }

    private static float speed(IslandSolver solver) {
        return solver.ofRow(solver.row(0, 1, 0, 0, 0, 0, -1), 1);
    }

    private static void isNothingAtFirst() {
        IslandSolver solver = spinning();
        Check.same("speed with a new pad", speed(solver), 0.0f);
        Check.same("stiffness with a new pad", solver.ofRow(0, 2), 0.0f);
    }

    private static void goesIntoRows() {
        IslandSolver solver = spinning();
        solver.vector(0, 1, 2, 3);
        Check.same("N alone", speed(solver), 321.0f - 963.0f);
        solver.vector(1, 3, 2, 1);
        Check.same("N and P", speed(solver), 321.0f + 246.0f - 963.0f);
        solver.vector(2, -64, 64, 0);
        Check.same("N, P and Q", speed(solver), 321.0f + 246.0f - 963.0f - 2304.0f);
        solver.vector(0, 0, 0, 0);
        Check.same("P and Q", speed(solver), 246.0f - 2304.0f);
        Check.same("a row keeps its own", solver.ofRow(0, 1), 321.0f - 963.0f);
        solver.clear();
        Check.same("the pad stays when rows are cleared", speed(solver), 246.0f - 2304.0f);
    }

    private static void refusesWrongCalls() {
        IslandSolver solver = spinning();
        solver.vector(0, 1, 0, 0);
        for (int which : new int[] {-1, 3, Integer.MIN_VALUE, Integer.MAX_VALUE}) {
            Check.index("vector " + which, solver, () -> solver.vector(which, 0, 0, 0));
            Check.index("vector " + which + ", wrong", solver, () -> solver.vector(which, 65, 0, 0));
        }
        for (float x : Worlds.outside(-64, 64)) {
            for (int which = 0; which < 3; which++) {
                int w = which;
                Check.argument("x " + x, solver, () -> solver.vector(w, x, 1, 1));
                Check.argument("y " + x, solver, () -> solver.vector(w, 1, x, 1));
                Check.argument("z " + x, solver, () -> solver.vector(w, 1, 1, x));
            }
        }
        Check.same("the pad behind wrong calls", speed(solver), -2.0f);
        Check.same("its stiffness", solver.ofRow(0, 2), 2.0f);
    }
}
