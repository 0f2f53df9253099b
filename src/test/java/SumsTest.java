/**
 * The terms: each sum and product is made of floats as it is written, from left to right. Each case
 * has numbers for which another order (or doubles) would give another answer.
 */
public final class SumsTest {
    private static final int NONE = IslandSolver.NONE;
    /** Half of what lies between 1024 and the next float: added to 1024, it is lost. */
    private static final float HALF = 0x1p-14f;

    public static void main(String[] args) {
        addsProductsOfVectorsInOrder();
        addsSpeedInOrder();
        addsStiffnessInOrder();
        addsMotionOfVelocityAndSpinEach();
        comparesThatMotionWithCalm();
        multipliesMassFirst();
        turnsByInertia();
        subtractsInOrderWhenSolving();
        holdsVelocityBehindTheRoundsAlone();
        Check.end();
    }

    /** A case is worth nothing if the other order gives the same. */
    private static void differ(String what, float one, float other) {
        Check.that(what + ": the numbers tell the orders apart", one != other);
    }

    private static void addsProductsOfVectorsInOrder() {
        IslandSolver solver = Worlds.points(1);
        solver.vector(0, 1, 1, 1);
        solver.row(0, NONE, 0, 0, 0, 0, 0);
        solver.set(0, 1024, HALF, HALF, 0, 0, 0);
        Check.same("small ones last", solver.ofRow(0, 1), 1024.0f);
        solver.set(0, HALF, HALF, 1024, 0, 0, 0);
        Check.same("small ones first", solver.ofRow(0, 1), 1024.0f + 2 * HALF);
        solver.set(0, HALF, 1024, HALF, 0, 0, 0);
        Check.same("the large one between", solver.ofRow(0, 1), 1024.0f);
    }

    private static void addsSpeedInOrder() {
        IslandSolver solver = Worlds.points(2);
        for (int which = 0; which < 3; which++) {
            solver.vector(which, 1, 0, 0);
        }
        solver.row(0, 1, 0, 0, 0, 0, 0);
        solver.set(0, 1024, 0, 0, HALF, 0, 0);
        solver.set(1, -HALF, 0, 0, -HALF, 0, 0);
        Check.same("each is lost", solver.ofRow(0, 1), 1024.0f);
        solver.set(0, HALF, 0, 0, HALF, 0, 0);
        solver.set(1, -1024, 0, 0, -HALF, 0, 0);
        Check.same("those of a first", solver.ofRow(0, 1), (2 * HALF + 1024.0f) + HALF);
        differ("speed", (2 * HALF + 1024.0f) + HALF, 2 * HALF + (1024.0f + HALF));
    }

    private static void addsStiffnessInOrder() {
        float half = 0x1p-21f;
        IslandSolver solver = new IslandSolver();
        solver.body(8, half, 0, 0);
        solver.body(half, half, 0, 0);
        for (int which = 0; which < 3; which++) {
            solver.vector(which, 1, 0, 0);
        }
        solver.row(0, 1, 0, half, 0, 0, 0);
        Check.same("each is lost", solver.ofRow(0, 2), 8.0f);
        solver.row(1, 0, 0, half, 0, 0, 0);
        Check.same("those of a first", solver.ofRow(1, 2), 2 * half + 8.0f + half + half);
        differ("masses first", 2 * half + 8.0f + half + half, half + 8.0f + half + half + half);
    }

    private static void addsMotionOfVelocityAndSpinEach() {
        IslandSolver solver = Worlds.points(1);
        solver.set(0, 1024, 0, 0, 0.25f, 0.25f, 0);
        Check.same("motion", solver.motion(), 1048576.125f);
        differ("motion", 1048576.125f, 1048576.0f + 0.0625f + 0.0625f);
    }

    private static void comparesThatMotionWithCalm() {
        IslandSolver solver = Worlds.points(1);
        float small = 0x1p-10f;
        float calm = Math.nextUp(16.0f);
        solver.settings(1, 1, calm, 0);
        solver.set(0, 4, 0, 0, small, small, 0);
        solver.step(1);
        Check.same("not below CALM", solver.about(0, 2), 0);
        solver.settings(1, 1, Math.nextUp(calm), 0);
        solver.step(1);
        Check.same("below CALM", solver.about(0, 2), 1);
    }

    /** N * (W * d); the limits leave the row one impulse alone. */
    private static void multipliesMassFirst() {
        float[][] cases = {{1.1f, 0.3f, 7.7f}, {0.7f, 1.9f, -3.3f}, {-5.3f, 2.7f, 0.9f}};
        for (float[] one : cases) {
            float n = one[0];
            float w = one[1];
            float d = one[2];
            IslandSolver solver = new IslandSolver();
            solver.body(w, 0, 0, 0);
            solver.body(w, 0, 0, 0);
            solver.vector(0, 0, n, 0);
            solver.row(0, 1, 0, 0, d, d, 0);
            solver.step(1);
            Check.same("V of a", solver.of(0, 1), n * (w * d));
            Check.same("V of b", solver.of(1, 1), 0.0f - n * (w * d));
            differ("mass", n * (w * d), n * w * d);
        }
    }

    /** (I P) * d, coordinate by coordinate. */
    private static void turnsByInertia() {
        float d = 7.7f;
        IslandSolver solver = new IslandSolver();
        for (int i = 0; i < 2; i++) {
            solver.body(0, 1.1f, 2.3f, 3.7f);
            solver.lean(i, 0.3f, -0.7f, 0.9f);
        }
        solver.vector(1, 1.3f, -0.6f, 2.9f);
        solver.vector(2, -1.7f, 0.4f, 0.2f);
        solver.row(0, 1, 0, 0, d, d, 0);
        solver.step(1);
        Check.same("x of a", solver.of(0, 3), (1.1f * 1.3f + 0.3f * -0.6f + 0.9f * 2.9f) * d);
        Check.same("y of a", solver.of(0, 4), (0.3f * 1.3f + 2.3f * -0.6f + -0.7f * 2.9f) * d);
        Check.same("z of a", solver.of(0, 5), (0.9f * 1.3f + -0.7f * -0.6f + 3.7f * 2.9f) * d);
        Check.same("x of b", solver.of(1, 3), 0.0f - (1.1f * -1.7f + 0.3f * 0.4f + 0.9f * 0.2f) * d);
        Check.same("y of b", solver.of(1, 4), 0.0f - (0.3f * -1.7f + 2.3f * 0.4f + -0.7f * 0.2f) * d);
        Check.same("z of b", solver.of(1, 5), 0.0f - (0.9f * -1.7f + -0.7f * 0.4f + 3.7f * 0.2f) * d);
    }

    /** Each of the other orders is told apart by one of the speeds. */
    private static void subtractsInOrderWhenSolving() {
        float due = solvesWithSpeed(2 * HALF);
        differ("softness first", due, solved(-1024.0f - HALF - 2 * HALF));
        due = solvesWithSpeed(HALF);
        differ("both at once", due, solved(-1024.0f - (HALF + HALF)));
        differ("doubles", due, (float) (1.0 + (-1024.0 - HALF - HALF) / (1.0 + HALF)));
    }

    /** One round with the kept impulse 1: TARGET - SPEED - SOFTNESS * IMPULSE, then the quotient. */
    private static float solvesWithSpeed(float speed) {
        IslandSolver solver = Worlds.points(1);
        solver.settings(1, 1, 0, 0);
        solver.vector(0, 1, 0, 0);
        solver.row(0, NONE, 0, 0, 1, 1, 5);
        solver.step(1);
        solver.clear();
        solver.row(0, NONE, -1024, HALF, -65536, 65536, 5);
        Check.same("the kept impulse", solver.ofRow(0, 0), 1.0f);
        solver.set(0, speed - 1.0f, 0, 0, 0, 0, 0);
        solver.step(1);
        float due = solved(-1024.0f - speed - HALF);
        Check.same("the impulse", solver.ofRow(0, 0), due);
        Check.same("V", solver.of(0, 0), speed + (due - 1.0f));
        return due;
    }

    private static float solved(float rest) {
        return 1.0f + rest / (1.0f + HALF);
    }

    /** The first row drives V to 8192, far above 4096, the second takes 5000 of it away. */
    private static void holdsVelocityBehindTheRoundsAlone() {
        IslandSolver solver = Worlds.points(1);
        solver.settings(1, 1, 0, 0);
        solver.vector(0, 0.125f, 0, 0);
        solver.row(0, NONE, 1024, 0, 0, 65536, 0);
        solver.vector(0, 1, 0, 0);
        solver.row(0, NONE, 0, 0, -5000, 0, 0);
        solver.step(1);
        Check.same("what drives", solver.ofRow(0, 0), 65536.0f);
        Check.same("what takes away", solver.ofRow(1, 0), -5000.0f);
        Check.same("V", solver.of(0, 0), 3192.0f);
    }
}
