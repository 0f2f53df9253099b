/** The terms: what a body that is not movable, and NONE, count in rows. */
public final class FixedBodiesTest {
    private static final int NONE = IslandSolver.NONE;

    public static void main(String[] args) {
        for (int side = 0; side < 2; side++) {
            takesAlong(side == 0);
            countsWithoutInertia(side == 0);
        }
        standsStillWithNone();
        isMovableByMassOrInertia();
        Check.end();
    }

    /** A floor that is not movable can have a velocity and a spin all the same. */
    private static void takesAlong(boolean floorIsB) {
        IslandSolver solver = movingFloor();
        int row = floorIsB ? solver.row(1, 0, 0, 0, -100, 100, 0) : solver.row(0, 1, 0, 0, -100, 100, 0);
        Check.same("SPEED", solver.ofRow(row, 1), floorIsB ? -5.0f - 14.0f : 5.0f + 21.0f);
        solver.step(1);
        Check.same("SPEED behind the step", solver.ofRow(row, 1), 0.0f);
        Check.same("V of the body", solver.of(1, 0), floorIsB ? 19.0f : 26.0f);
        Check.same("V of the floor", solver.of(0, 0), 5.0f);
        Check.same("S of the floor", solver.of(0, 4), 7.0f);
    }

    /** N along x, P three times and Q twice along y; body 1 has W 1 and inertia 0. */
    private static IslandSolver movingFloor() {
        IslandSolver solver = new IslandSolver();
        solver.body(0, 0, 0, 0);
        solver.body(1, 0, 0, 0);
        solver.set(0, 5, 0, 0, 0, 7, 0);
        solver.vector(0, 1, 0, 0);
        solver.vector(1, 0, 3, 0);
        solver.vector(2, 0, 2, 0);
        return solver;
    }

    /** It leans, but in rows its inertia is 0. */
    private static void countsWithoutInertia(boolean floorIsB) {
        IslandSolver solver = movingFloor();
        solver.lean(0, 4, 4, 4);
        solver.vector(1, 1, 3, 2);
        solver.vector(2, 1, 2, 3);
        int row = floorIsB ? solver.row(1, 0, 9, 0, -100, 100, 0) : solver.row(0, 1, 9, 0, -100, 100, 0);
        Check.same("STIFFNESS", solver.ofRow(row, 2), 1.0f);
        String before = floor(solver);
        solver.step(3);
        Check.same("the floor", floor(solver), before);
    }

    private static String floor(IslandSolver solver) {
        StringBuilder text = new StringBuilder();
        for (int what = 0; what < 13; what++) {
            text.append(solver.of(0, what)).append(' ');
        }
        return text.toString();
    }

    private static void standsStillWithNone() {
        IslandSolver solver = movingFloor();
        int row = solver.row(1, NONE, 4, 0, -100, 100, 0);
        Check.same("SPEED", solver.ofRow(row, 1), 0.0f);
        Check.same("STIFFNESS", solver.ofRow(row, 2), 1.0f);
        solver.step(1);
        Check.same("V", solver.of(1, 0), 4.0f);
        int still = solver.row(0, NONE, 4, 0, -100, 100, 0);
        Check.same("SPEED of the floor", solver.ofRow(still, 1), 26.0f);
        Check.same("STIFFNESS of the floor", solver.ofRow(still, 2), 0.0f);
        Check.same("dead", solver.count(6), 1);
    }

    private static void isMovableByMassOrInertia() {
        IslandSolver solver = new IslandSolver();
        float least = Float.MIN_VALUE;
        float[][] masses = {{0, 0, 0, 0}, {least, 0, 0, 0}, {0, least, 0, 0}, {0, 0, least, 0}, {0, 0, 0, least}};
        for (float[] m : masses) {
            solver.body(m[0], m[1], m[2], m[3]);
        }
        solver.lean(0, 4, 4, 4);
        for (int i = 0; i < masses.length; i++) {
            Check.same("island of " + i, solver.about(i, 0), i - 1);
            Check.same("gain of " + i, solver.gain(i, i, 1, 0, 0), i == 0 ? 0 : 1);
        }
        Check.same("islands", solver.count(2), 4);
    }
}
