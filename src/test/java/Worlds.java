/** Small worlds that several tests begin with. */
final class Worlds {
    /** Numbers that are within no range of the document. */
    static final float[] NO_NUMBERS = {
        Float.NaN, Float.POSITIVE_INFINITY, Float.NEGATIVE_INFINITY, Float.MAX_VALUE, -Float.MAX_VALUE
    };

    private Worlds() {
    }

    static float above(float x) {
        return Math.nextUp(x);
    }

    static float below(float x) {
        return Math.nextDown(x);
    }

    /** The wrong numbers for a range: just outside of it, and those that no range has. */
    static float[] outside(float low, float high) {
        float[] wrong = new float[NO_NUMBERS.length + 2];
        System.arraycopy(NO_NUMBERS, 0, wrong, 0, NO_NUMBERS.length);
        wrong[NO_NUMBERS.length] = below(low);
        wrong[NO_NUMBERS.length + 1] = above(high);
        return wrong;
    }

    /** So many bodies with W 1 and inertia 0. */
    static IslandSolver points(int bodies) {
        IslandSolver solver = new IslandSolver();
        for (int i = 0; i < bodies; i++) {
            solver.body(1, 0, 0, 0);
        }
        return solver;
    }

    /** The same, all of them asleep (STILL 1, CALM 64). */
    static IslandSolver sleepers(int bodies) {
        IslandSolver solver = points(bodies);
        solver.settings(8, 1, 64, 1);
        solver.step(1);
        return solver;
    }

    /** A row along x without softness, with wide limits. */
    static int alongX(IslandSolver solver, int a, int b, float target, int key) {
        solver.vector(0, 1, 0, 0);
        solver.vector(1, 0, 0, 0);
        solver.vector(2, 0, 0, 0);
        return solver.row(a, b, target, 0, -65536, 65536, key);
    }

    /** All that the questions of the face tell. */
    static String picture(IslandSolver solver) {
        StringBuilder text = new StringBuilder();
        for (int what = 0; what < 7; what++) {
            text.append(solver.count(what)).append(' ');
        }
        text.append(bits(solver.motion())).append('\n');
        for (int body = 0; body < solver.count(0); body++) {
            text.append("body ").append(body);
            for (int what = 0; what < 13; what++) {
                text.append(' ').append(bits(solver.of(body, what)));
            }
            for (int what = 0; what < 4; what++) {
                text.append(' ').append(solver.about(body, what));
            }
            text.append('\n');
        }
        for (int row = 0; row < solver.count(1); row++) {
            text.append("row ").append(row);
            for (int what = 0; what < 3; what++) {
                text.append(' ').append(bits(solver.ofRow(row, what)));
            }
            text.append('\n');
        }
        return text.toString();
    }

    private static String bits(float x) {
        return x + "/" + Integer.toHexString(Float.floatToIntBits(x));
    }
}
