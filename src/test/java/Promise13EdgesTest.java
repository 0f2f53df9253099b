/** Promise 13 once more: the edges that the document names for what is done in a step. */
public final class Promise13EdgesTest {
    private static final int NONE = IslandSolver.NONE;

    public static void main(String[] args) {
        holdsEachCoordinateAt4096();
        holdsWhatWasGained();
        isQuietBelowCalmAlone();
        isNeverQuietWithCalm0();
        sleepsAtStillAlone();
        sleepsWhenTheLastBodyIsStill();
        sleepsAtOnceWhenStillIsLowered();
        holdsImpulsesAtTheirLimits();
        rubsBetweenTheLimits();
        rubsAtTheMost();
        rubsAtADeadRow();
        isDeadBelowTheEdgeBySoftnessAlone();
        countsFromOneToTwentySteps();
        Check.end();
    }

    /** A row whose limits are both x gives its body just x in one coordinate. */
    private static float pushed(int coordinate, float x) {
        IslandSolver solver = new IslandSolver();
        solver.body(1, 1, 1, 1);
        float[] p = new float[3];
        p[coordinate % 3] = 1;
        solver.vector(coordinate < 3 ? 0 : 1, p[0], p[1], p[2]);
        solver.row(0, NONE, 0, 0, x, x, 0);
        solver.step(1);
        for (int other = 0; other < 6; other++) {
            if (other != coordinate) {
                Check.that("the other coordinates stay", solver.of(0, other) == 0);
            }
        }
        return solver.of(0, coordinate);
    }

    private static void holdsEachCoordinateAt4096() {
        for (int coordinate = 0; coordinate < 6; coordinate++) {
            String name = "coordinate " + coordinate + " at ";
            for (float x : new float[] {Worlds.below(4096), 4096, -4096, Worlds.above(-4096)}) {
                Check.same(name + x, pushed(coordinate, x), x);
            }
            for (float x : new float[] {Worlds.above(4096), 65536}) {
                Check.same(name + x, pushed(coordinate, x), 4096.0f);
                Check.same(name + -x, pushed(coordinate, -x), -4096.0f);
            }
        }
    }

    /** Between steps nothing is held. */
    private static void holdsWhatWasGained() {
        IslandSolver solver = Worlds.points(2);
        for (int i = 0; i < 65; i++) {
            solver.gain(0, 1, 64, -64, 0);
        }
        Check.same("before a step", solver.of(0, 0), 4160.0f);
        solver.step(1);
        Check.same("V x behind a step", solver.of(0, 0), 4096.0f);
        Check.same("V y behind a step", solver.of(1, 1), -4096.0f);
        Check.same("V z behind a step", solver.of(1, 2), 0.0f);
    }

    private static int quietWith(float calm, float v, float s) {
        IslandSolver solver = Worlds.points(1);
        solver.settings(8, 1, calm, 0);
        solver.set(0, 0, v, 0, 0, 0, s);
        solver.step(1);
        return solver.about(0, 2);
    }

    private static void isQuietBelowCalmAlone() {
        Check.same("V . V is CALM 64", quietWith(64, 8, 0), 0);
        Check.same("V . V is below CALM 64", quietWith(64, Worlds.below(8), 0), 1);
        Check.same("S . S is CALM 64", quietWith(64, 0, -8), 0);
        Check.same("S . S is below CALM 64", quietWith(64, 0, Worlds.above(-8)), 1);
        Check.same("the sum is CALM 25", quietWith(25, 3, 4), 0);
        Check.same("the sum is below CALM", quietWith(Worlds.above(25), 3, 4), 1);
        Check.same("the sum is above CALM", quietWith(Worlds.below(25), 3, 4), 0);
    }

    private static void isNeverQuietWithCalm0() {
        Check.same("at rest with CALM 0", quietWith(0, 0, 0), 0);
        Check.same("at rest with the smallest CALM", quietWith(Float.MIN_VALUE, 0, 0), 1);
        IslandSolver solver = Worlds.points(1);
        solver.settings(8, 1, 0, 1);
        Check.same("it never sleeps", solver.step(20), 1);
    }

    private static void sleepsAtStillAlone() {
        for (int still : new int[] {1, 2, 19, 20, 99, 100}) {
            IslandSolver solver = Worlds.points(1);
            solver.settings(8, 1, 1, still);
            for (int step = 1; step < still; step++) {
                Check.same("awake behind " + step + " of " + still, solver.step(1), 1);
            }
            Check.same("asleep behind " + still, solver.step(1), 0);
            Check.same("quiet for " + still, solver.about(0, 2), still);
        }
    }

    private static void sleepsWhenTheLastBodyIsStill() {
        IslandSolver solver = Worlds.points(2);
        solver.settings(8, 1, 1, 3);
        solver.row(0, 1, 0, 0, 0, 0, 0);
        solver.step(1);
        solver.wake(1);
        solver.step(2);
        Check.same("quiet of the first", solver.about(0, 2), 3);
        Check.same("quiet of the last", solver.about(1, 2), 2);
        Check.same("bodies that are asleep", solver.count(4), 0);
        solver.step(1);
        Check.same("bodies that are asleep one step later", solver.count(4), 2);
        Check.same("quiet of the first behind it", solver.about(0, 2), 4);
    }

    private static void sleepsAtOnceWhenStillIsLowered() {
        IslandSolver solver = Worlds.points(1);
        solver.settings(8, 1, 1, 0);
        solver.step(9);
        solver.settings(8, 1, 1, 3);
        Check.same("settings lay nobody to sleep", solver.about(0, 1), 0);
        Check.same("the next step does", solver.step(1), 0);
        Check.same("quiet for all its steps", solver.about(0, 2), 10);
    }

    private static float solvedImpulse(float target, float low, float high) {
        IslandSolver solver = Worlds.points(1);
        solver.vector(0, 1, 0, 0);
        solver.row(0, NONE, target, 0, low, high, 0);
        solver.step(1);
        return solver.ofRow(0, 0);
    }

    private static void holdsImpulsesAtTheirLimits() {
        Check.same("just the higher one", solvedImpulse(3, -3, 3), 3.0f);
        Check.same("just above it", solvedImpulse(Worlds.above(3), -3, 3), 3.0f);
        Check.same("just below it", solvedImpulse(Worlds.below(3), -3, 3), Worlds.below(3));
        Check.same("just the lower one", solvedImpulse(-3, -3, 3), -3.0f);
        Check.same("just below the lower one", solvedImpulse(Worlds.below(-3), -3, 3), -3.0f);
        Check.same("just above the lower one", solvedImpulse(Worlds.above(-3), -3, 3), Worlds.above(-3));
        Check.same("both above what is wanted", solvedImpulse(0, 2, 5), 2.0f);
        Check.same("both below what is wanted", solvedImpulse(0, -5, -2), -2.0f);
        Check.same("both 0", solvedImpulse(1000, 0, 0), 0.0f);
        Check.same("both the same", solvedImpulse(1000, 7, 7), 7.0f);
    }

    /** The impulse of a row with friction 0.5 that rubs at one which presses with just so much. */
    private static float rubbed(float press, float target) {
        IslandSolver solver = Worlds.points(1);
        solver.vector(0, 0, 1, 0);
        solver.row(0, NONE, 0, 0, press, press, 0);
        solver.vector(0, 1, 0, 0);
        solver.rub(0, NONE, target, 0, 0.5f, 1);
        solver.step(1);
        return solver.ofRow(1, 0);
    }

    private static void rubsBetweenTheLimits() {
        for (float press : new float[] {0.125f, 0.5f, 1, 1.5f, 2, 3, 512}) {
            Check.same("higher limit, pressed by " + press, rubbed(press, 1024), press / 2);
            Check.same("lower limit, pressed by " + press, rubbed(press, -1024), -press / 2);
            Check.same("just the higher limit " + press, rubbed(press, press / 2), press / 2);
            Check.same("just the lower limit " + press, rubbed(press, -press / 2), -press / 2);
            Check.same("within the limits " + press, rubbed(press, press / 4), press / 4);
        }
        for (float press : new float[] {0, -0.125f, -1, -2, -3, -65536}) {
            for (float target : new float[] {1024, -1024, 0.01f, -0.01f, 0}) {
                Check.that("no rubbing, pressed by " + press, rubbed(press, target) == 0);
            }
        }
    }

    /** W 1 / 1024 wants the impulse 1024 * 1024, of which friction 8 of 65536 allows the half. */
    private static void rubsAtTheMost() {
        IslandSolver solver = new IslandSolver();
        solver.body(1.0f / 1024, 0, 0, 0);
        solver.vector(0, 0, 1, 0);
        solver.row(0, NONE, 0, 0, 65536, 65536, 0);
        solver.vector(0, 1, 0, 0);
        solver.rub(0, NONE, 1024, 0, 8, 1);
        solver.step(1);
        Check.same("the highest impulse of a row that rubs", solver.ofRow(1, 0), 524288.0f);
        Check.same("V of it", solver.of(0, 0), 512.0f);
    }

    private static void rubsAtADeadRow() {
        IslandSolver solver = Worlds.points(1);
        Worlds.alongX(solver, 0, NONE, 5, 1);
        solver.step(1);
        solver.clear();
        solver.vector(0, 0, 0, 0);
        solver.row(0, NONE, 0, 0, 1, 9, 1);
        solver.vector(0, 1, 0, 0);
        solver.rub(0, NONE, 1024, 0, 1, 1);
        Check.same("both begin with what was kept", solver.ofRow(0, 0) + solver.ofRow(1, 0), 10.0f);
        solver.step(1);
        Check.same("the dead row has 0, whatever its limits", solver.ofRow(0, 0), 0.0f);
        Check.that("the one that rubs at it has 0", solver.ofRow(1, 0) == 0);
        Check.same("V", solver.of(0, 0), 5.0f);
    }

    private static void isDeadBelowTheEdgeBySoftnessAlone() {
        float edge = 1.0f / (1 << 20);
        float[] softs = {0, Worlds.below(edge), edge, Worlds.above(edge)};
        int[] due = {1, 1, 0, 0};
        for (int i = 0; i < softs.length; i++) {
            IslandSolver solver = new IslandSolver();
            solver.body(1, 0, 0, 0);
            solver.body(0, 0, 0, 0);
            solver.row(0, 1, 0, softs[i], 2, 2, 0);
            Check.same("dead by softness " + softs[i], solver.count(6), due[i]);
            solver.step(1);
            Check.same("impulse with softness " + softs[i], solver.ofRow(0, 0), due[i] == 1 ? 0.0f : 2.0f);
            solver.clear();
            solver.row(1, NONE, 0, softs[i], 2, 2, 0);
            Check.same("dead without a movable body, " + softs[i], solver.count(6), 1);
        }
    }

    private static void countsFromOneToTwentySteps() {
        for (int n = 1; n <= 20; n++) {
            IslandSolver solver = Worlds.points(1);
            solver.step(n);
            Check.same("steps of step(" + n + ")", solver.count(5), n);
            Check.same("quiet of step(" + n + ")", solver.about(0, 2), n);
        }
    }
}
