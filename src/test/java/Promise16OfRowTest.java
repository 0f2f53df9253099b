/** Promise 16: ofRow. */
public final class Promise16OfRowTest {
    private static final int NONE = IslandSolver.NONE;

    public static void main(String[] args) {
        tellsThingsAsTheyAreNow();
        countsNoneAsNothing();
        refusesWrongCalls();
        Check.end();
    }

    private static void tellsThingsAsTheyAreNow() {
        IslandSolver solver = new IslandSolver();
        solver.body(2, 1, 1, 1);
        solver.body(3, 1, 2, 1);
        solver.vector(0, 1, 2, 0);
        solver.vector(1, 0, 0, 3);
        solver.vector(2, 0, 1, 1);
        solver.row(0, 1, 0, 0.5f, -10, 10, 0);
        Check.same("impulse of a new row", solver.ofRow(0, 0), 0.0f);
        Check.same("speed of what stands", solver.ofRow(0, 1), 0.0f);
        // 2 * 5 + 9 + 3 * 5 + (2 + 1) + 0.5
        Check.same("stiffness", solver.ofRow(0, 2), 37.5f);
        solver.set(0, 1, 10, 100, 0, 0, 2);
        solver.set(1, 2, 3, 4, 5, 6, 7);
        // 21 + 6 - 8 - 13
        Check.same("speed as things are now", solver.ofRow(0, 1), 6.0f);
        solver.lean(1, 0, 1, 0);
        Check.same("stiffness as things are now", solver.ofRow(0, 2), 39.5f);
        solver.settings(1, 1, 0, 0);
        solver.step(1);
        Check.same("impulse behind a step", solver.ofRow(0, 0), -6.0f / 39.5f);
    }

    private static void countsNoneAsNothing() {
        IslandSolver solver = Worlds.points(1);
        solver.vector(0, -1, -1, -1);
        solver.vector(1, -1, -1, -1);
        solver.vector(2, -1, -1, -1);
        solver.row(0, NONE, 0, 0, 0, 0, 0);
        Check.same("stiffness with NONE", solver.ofRow(0, 2), 3.0f);
        // N . V and P . S are -0.0, and stay it with 0.0 taken away; with -0.0 they would be 0.0.
        Check.same("speed with NONE, to the last bit", solver.ofRow(0, 1), -0.0f);
        solver.set(0, 1, 2, 3, 0, 0, 0);
        Check.same("speed with NONE", solver.ofRow(0, 1), -6.0f);
        IslandSolver rock = new IslandSolver();
        rock.body(0, 0, 0, 0);
        rock.vector(0, 1, 0, 0);
        rock.row(0, NONE, 0, 2, 0, 0, 0);
        Check.same("stiffness without a movable body", rock.ofRow(0, 2), 2.0f);
        Check.same("it is dead all the same", rock.count(6), 1);
    }

    private static void refusesWrongCalls() {
        IslandSolver solver = Worlds.points(2);
        Worlds.alongX(solver, 0, 1, 0, 0);
        for (int row : new int[] {-1, 1, Integer.MIN_VALUE, Integer.MAX_VALUE}) {
            Check.index("ofRow(" + row + ", 0)", solver, () -> solver.ofRow(row, 0));
            Check.index("ofRow(" + row + ", 3)", solver, () -> solver.ofRow(row, 3));
        }
        for (int what : new int[] {-1, 3, Integer.MIN_VALUE, Integer.MAX_VALUE}) {
            Check.index("ofRow(0, " + what + ")", solver, () -> solver.ofRow(0, what));
        }
    }
}
