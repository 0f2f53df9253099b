/** Promise 2: body. */
public final class Promise02BodyTest {
    public static void main(String[] args) {
        makesBodies();
        takesTheEdges();
        isMovableByOneNumberAlone();
        refusesWrongNumbers();
        refusesTheBodyBehindTheLast();
        Check.end();
    }

    private static void makesBodies() {
        IslandSolver solver = new IslandSolver();
        Check.same("the first body", solver.body(1, 2, 3, 4), 0);
        Check.same("the second body", solver.body(0.5f, 0, 0, 0.25f), 1);
        Check.same("how many bodies", solver.count(0), 2);
        float[] due = {0, 0, 0, 0, 0, 0, 1, 2, 3, 4, 0, 0, 0};
        for (int what = 0; what < due.length; what++) {
            Check.same("of(0, " + what + ")", solver.of(0, what), due[what]);
        }
        Check.same("W of the second", solver.of(1, 6), 0.5f);
        Check.same("zz of the second", solver.of(1, 9), 0.25f);
        for (int what = 1; what < 4; what++) {
            Check.same("about(1, " + what + ")", solver.about(1, what), 0);
        }
    }

    private static void takesTheEdges() {
        IslandSolver solver = new IslandSolver();
        Check.same("all 0", solver.body(0, 0, 0, 0), 0);
        Check.same("all 16", solver.body(16, 16, 16, 16), 1);
        Check.same("the smallest W", solver.body(Float.MIN_VALUE, 0, 0, 0), 2);
        Check.same("the smallest zz", solver.body(0, 0, 0, Float.MIN_VALUE), 3);
        Check.same("-0.0 is 0", solver.body(-0.0f, -0.0f, -0.0f, -0.0f), 4);
        Check.same("all 0 is in no island", solver.about(0, 0), IslandSolver.NONE);
        Check.same("all 16 is an island", solver.about(1, 0), 0);
        Check.same("the smallest W is movable", solver.about(2, 0), 1);
        Check.same("the smallest zz is movable", solver.about(3, 0), 2);
        Check.same("-0.0 is not movable", solver.about(4, 0), IslandSolver.NONE);
    }

    private static void isMovableByOneNumberAlone() {
        for (float x : new float[] {Float.MIN_VALUE, 16}) {
            IslandSolver solver = new IslandSolver();
            solver.body(x, 0, 0, 0);
            solver.body(0, x, 0, 0);
            solver.body(0, 0, x, 0);
            solver.body(0, 0, 0, x);
            solver.body(0, 0, 0, 0);
            solver.lean(4, 4, 4, 4);
            for (int i = 0; i < 4; i++) {
                Check.same("movable by number " + i + ", " + x, solver.about(i, 0), i);
            }
            Check.same("leaning makes nothing movable", solver.about(4, 0), IslandSolver.NONE);
            Check.same("gain of it", solver.gain(4, 4, 1, 1, 1), 0);
            Check.same("islands", solver.count(2), 4);
        }
    }

    private static void refusesWrongNumbers() {
        IslandSolver solver = Worlds.points(1);
        for (float x : Worlds.outside(0, 16)) {
            Check.argument("w " + x, solver, () -> solver.body(x, 0, 0, 0));
            Check.argument("xx " + x, solver, () -> solver.body(0, x, 0, 0));
            Check.argument("yy " + x, solver, () -> solver.body(0, 0, x, 0));
            Check.argument("zz " + x, solver, () -> solver.body(0, 0, 0, x));
        }
        Check.same("the body behind the wrong ones", solver.body(0, 0, 0, 0), 1);
    }

    private static void refusesTheBodyBehindTheLast() {
        IslandSolver solver = Worlds.points(255);
        Check.same("the last body", solver.body(16, 0, 0, 0), 255);
        Check.state("one more", solver, () -> solver.body(1, 0, 0, 0));
        Check.argument("a wrong one more", solver, () -> solver.body(-1, 0, 0, 0));
        Check.same("how many islands", solver.count(2), 256);
        Check.same("the last island", solver.about(255, 0), 255);
        Check.same("a step with all", solver.step(1), 256);
    }
}
