/** Promise 9: rub. */
public final class Promise09RubTest {
    private static final int NONE = IslandSolver.NONE;

    public static void main(String[] args) {
        holdsWithinFriction();
        hasNoSoftness();
        rubsAtNothingBelowZero();
        beginsWithTheKeptImpulse();
        refusesWrongBodiesAndRows();
        refusesWrongNumbers();
        refusesOtherRows();
        refusesTheRowBehindTheLast();
        Check.end();
    }

    /** A body on a floor: row 0 presses with 8 along y, row 1 rubs along x. */
    private static IslandSolver sliding(float speed, float friction) {
        IslandSolver solver = Worlds.points(1);
        solver.set(0, speed, -8, 0, 0, 0, 0);
        solver.vector(0, 0, 1, 0);
        Check.same("the row that presses", solver.row(0, NONE, 0, 0, 0, 100, 1), 0);
        solver.vector(0, 1, 0, 0);
        Check.same("the row that rubs", solver.rub(0, NONE, 0, 0, friction, 2), 1);
        Check.same("its impulse at first", solver.ofRow(1, 0), 0.0f);
        Check.same("its stiffness has no softness", solver.ofRow(1, 2), 1.0f);
        return solver;
    }

    private static void holdsWithinFriction() {
        IslandSolver solver = sliding(10, 0.5f);
        solver.step(1);
        Check.same("what presses", solver.ofRow(0, 0), 8.0f);
        Check.same("held at the lower limit", solver.ofRow(1, 0), -4.0f);
        Check.same("it slides on", solver.of(0, 0), 6.0f);
        solver = sliding(-10, 0.5f);
        solver.step(1);
        Check.same("held at the higher limit", solver.ofRow(1, 0), 4.0f);
        Check.same("it slides on the other way", solver.of(0, 0), -6.0f);
        solver = sliding(3, 8);
        solver.step(1);
        Check.same("enough to stop it", solver.ofRow(1, 0), -3.0f);
        Check.same("it stands", solver.of(0, 0), 0.0f);
        solver = sliding(3, 0);
        solver.step(1);
        Check.same("without friction", solver.of(0, 0), 3.0f);
    }

    /** Also if the row that it rubs at has one. */
    private static void hasNoSoftness() {
        IslandSolver solver = Worlds.points(1);
        solver.set(0, 3, -8, 0, 0, 0, 0);
        solver.vector(0, 0, 1, 0);
        solver.row(0, NONE, 0, 3, 0, 100, 1);
        solver.vector(0, 1, 0, 0);
        solver.rub(0, NONE, 0, 0, 8, 2);
        Check.same("stiffness of the row", solver.ofRow(0, 2), 4.0f);
        Check.same("stiffness of the one that rubs", solver.ofRow(1, 2), 1.0f);
        solver.step(1);
        Check.same("the row gives way", solver.of(0, 1), -6.0f);
        Check.same("the one that rubs does not", solver.of(0, 0), 0.0f);
    }

    private static void rubsAtNothingBelowZero() {
        IslandSolver solver = Worlds.points(1);
        solver.set(0, 3, 8, 0, 0, 0, 0);
        solver.vector(0, 0, 1, 0);
        solver.row(0, NONE, 0, 0, -100, 100, 1);
        solver.vector(0, 1, 0, 0);
        solver.rub(0, NONE, 0, 0, 8, 2);
        solver.step(1);
        Check.same("what pulls", solver.ofRow(0, 0), -8.0f);
        Check.same("no rubbing then", solver.ofRow(1, 0), 0.0f);
        Check.same("it slides on", solver.of(0, 0), 3.0f);
    }

    private static void beginsWithTheKeptImpulse() {
        IslandSolver solver = sliding(10, 0.5f);
        solver.step(1);
        solver.clear();
        solver.row(0, NONE, 0, 0, 0, 100, 1);
        solver.rub(0, NONE, 0, 0, 2, 2);
        solver.rub(0, NONE, 0, 0, 0.25f, 2);
        solver.rub(0, NONE, 0, 0, 2, 1);
        solver.rub(0, NONE, 0, 0, 2, -1);
        solver.rub(0, NONE, 0, 0, 2, 3);
        solver.row(0, NONE, 0, 0, 0, 100, 4);
        solver.rub(0, NONE, 0, 6, 2, 2);
        float[] due = {8, -4, -2, 8, 0, 0, 0, 0};
        for (int row = 0; row < 8; row++) {
            float got = solver.ofRow(row, 0);
            Check.that("the impulse of row " + row + " is " + got + ", due is " + due[row], got == due[row]);
        }
    }

    private static void refusesWrongBodiesAndRows() {
        IslandSolver solver = Worlds.points(3);
        Worlds.alongX(solver, 0, 1, 0, 0);
        int[][] wrong = {{-1, 1, 0}, {3, 1, 0}, {0, 3, 0}, {0, -2, 0}, {0, 0, 0}, {0, 1, -1}, {0, 1, 1},
            {0, 1, Integer.MAX_VALUE}, {0, 1, Integer.MIN_VALUE}};
        for (int[] w : wrong) {
            String name = "rub(" + w[0] + ", " + w[1] + ") at " + w[2];
            Check.index(name, solver, () -> solver.rub(w[0], w[1], 0, w[2], 0, 0));
            Check.index(name + ", wrong", solver, () -> solver.rub(w[0], w[1], 9999, w[2], 9, 0));
        }
    }

    private static void refusesWrongNumbers() {
        IslandSolver solver = Worlds.points(3);
        Worlds.alongX(solver, 0, 1, 0, 0);
        for (float x : Worlds.outside(-1024, 1024)) {
            Check.argument("target " + x, solver, () -> solver.rub(0, 1, x, 0, 0, 0));
        }
        for (float x : Worlds.outside(0, 8)) {
            Check.argument("friction " + x, solver, () -> solver.rub(0, 1, 0, 0, x, 0));
        }
        Check.same("the lowest", solver.rub(0, 1, -1024, 0, 0, Integer.MIN_VALUE), 1);
        Check.same("the highest", solver.rub(0, 1, 1024, 0, 8, Integer.MAX_VALUE), 2);
    }

    private static void refusesOtherRows() {
        IslandSolver solver = Worlds.points(3);
        Worlds.alongX(solver, 0, 1, 0, 0);
        Worlds.alongX(solver, 0, NONE, 0, 0);
        solver.rub(0, 1, 0, 0, 1, 0);
        Check.argument("at a row that rubs", solver, () -> solver.rub(0, 1, 0, 2, 1, 0));
        Check.argument("of another a", solver, () -> solver.rub(2, 1, 0, 0, 1, 0));
        Check.argument("of another b", solver, () -> solver.rub(0, 2, 0, 0, 1, 0));
        Check.argument("of NONE", solver, () -> solver.rub(0, NONE, 0, 0, 1, 0));
        Check.argument("not of NONE", solver, () -> solver.rub(0, 1, 0, 1, 1, 0));
        Check.argument("the other way round", solver, () -> solver.rub(1, 0, 0, 0, 1, 0));
        Check.same("several at one row", solver.rub(0, 1, 0, 0, 1, 0), 3);
        Check.same("at the row with NONE", solver.rub(0, NONE, 0, 1, 1, 0), 4);
    }

    private static void refusesTheRowBehindTheLast() {
        IslandSolver solver = Worlds.points(2);
        Worlds.alongX(solver, 0, 1, 0, 0);
        for (int i = 1; i < 1024; i++) {
            Check.same("row " + i, solver.rub(0, 1, 0, 0, 1, i), i);
        }
        Check.state("one more", solver, () -> solver.rub(0, 1, 0, 0, 1, 0));
        Check.argument("a wrong one more", solver, () -> solver.rub(0, 1, 0, 0, 9, 0));
        Check.argument("at one that rubs", solver, () -> solver.rub(0, 1, 0, 1, 1, 0));
        Check.index("at no row", solver, () -> solver.rub(0, 1, 0, 1024, 1, 0));
    }
}
