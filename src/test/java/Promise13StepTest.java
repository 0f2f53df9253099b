/** Promise 13: step, with rows that hold, in their order and rounds. Sleep is in Promise13SleepTest. */
public final class Promise13StepTest {
    private static final int NONE = IslandSolver.NONE;

    public static void main(String[] args) {
        solvesARow();
        solvesWithSpin();
        solvesWithSoftness();
        holdsWithinLimits();
        goesRowByRow();
        beginsWithinLimits();
        rubsAtTheImpulseAsItIsThen();
        countsOneThatIsNotMovable();
        leavesDeadRows();
        deadIsBelowTheEdge();
        holdsSpeeds();
        keepsTheOrderOfSums();
        countsSteps();
        refusesWrongNumbers();
        Check.end();
    }

    private static void solvesARow() {
        IslandSolver solver = new IslandSolver();
        solver.body(1, 0, 0, 0);
        solver.body(3, 0, 0, 0);
        Worlds.alongX(solver, 0, 1, 0, 0);
        solver.set(0, 8, 5, 0, 0, 0, 0);
        Check.same("islands that do not sleep", solver.step(1), 1);
        Check.same("impulse", solver.ofRow(0, 0), -2.0f);
        Check.same("V of a", solver.of(0, 0), 6.0f);
        Check.same("V of b", solver.of(1, 0), 6.0f);
        Check.same("V across", solver.of(0, 1), 5.0f);
        solver.clear();
        Worlds.alongX(solver, 0, 1, 2, 1);
        solver.step(1);
        Check.same("V of a with a target", solver.of(0, 0), 6.5f);
        Check.same("V of b with a target", solver.of(1, 0), 4.5f);
    }

    /** N 0, P 2 0 0, Q 0 4 0: stiffness 4 * 0.5 + 16 * 0.125 = 4, speed 2 * 6 - 4 * 1 = 8. */
    private static void solvesWithSpin() {
        IslandSolver solver = new IslandSolver();
        solver.body(1, 0.5f, 1, 1);
        solver.body(1, 1, 0.125f, 1);
        solver.set(0, 0, 0, 0, 6, 0, 0);
        solver.set(1, 0, 0, 0, 0, 1, 0);
        solver.vector(1, 2, 0, 0);
        solver.vector(2, 0, 4, 0);
        solver.row(0, 1, 0, 0, -100, 100, 0);
        Check.same("speed", solver.ofRow(0, 1), 8.0f);
        Check.same("stiffness", solver.ofRow(0, 2), 4.0f);
        solver.step(1);
        Check.same("impulse", solver.ofRow(0, 0), -2.0f);
        Check.same("S of a", solver.of(0, 3), 4.0f);
        Check.same("S of b", solver.of(1, 4), 2.0f);
        Check.same("speed behind it", solver.ofRow(0, 1), 0.0f);
        Check.same("V of a", Math.abs(solver.of(0, 0)), 0.0f);
    }

    /** Stiffness 1 + 3; each round takes a quarter of what is missing to i = (0 - V) / 3. */
    private static void solvesWithSoftness() {
        IslandSolver solver = Worlds.points(1);
        solver.settings(1, 1, 0, 0);
        solver.vector(0, 1, 0, 0);
        solver.row(0, NONE, 0, 3, -100, 100, 0);
        solver.set(0, 8, 0, 0, 0, 0, 0);
        solver.step(1);
        Check.same("impulse", solver.ofRow(0, 0), -2.0f);
        Check.same("V", solver.of(0, 0), 6.0f);
        solver.settings(2, 0, 0, 0);
        solver.step(1);
        // From 0: i = -1.5, V = 4.5; then i = -1.5 + (-4.5 + 4.5) / 4.
        Check.same("impulse of two rounds", solver.ofRow(0, 0), -1.5f);
        Check.same("V of two rounds", solver.of(0, 0), 4.5f);
    }

    private static void holdsWithinLimits() {
        IslandSolver solver = Worlds.points(2);
        solver.vector(0, 1, 0, 0);
        solver.row(0, NONE, 0, 0, 0, 3, 0);
        solver.row(1, NONE, 0, 0, -4, 0, 1);
        solver.set(0, -10, 0, 0, 0, 0, 0);
        solver.set(1, 10, 0, 0, 0, 0, 0);
        solver.settings(4, 0, 0, 0);
        solver.step(1);
        Check.same("at the higher one", solver.ofRow(0, 0), 3.0f);
        Check.same("V from below", solver.of(0, 0), -7.0f);
        Check.same("at the lower one", solver.ofRow(1, 0), -4.0f);
        Check.same("V from above", solver.of(1, 0), 6.0f);
        solver.step(1);
        Check.same("V from below, another step", solver.of(0, 0), -4.0f);
        Check.same("V from above, another step", solver.of(1, 0), 2.0f);
    }

    private static void goesRowByRow() {
        IslandSolver solver = Worlds.points(1);
        solver.settings(1, 1, 0, 0);
        Worlds.alongX(solver, 0, NONE, 4, 0);
        Worlds.alongX(solver, 0, NONE, 6, 1);
        solver.step(1);
        Check.same("V is as the last row wants it", solver.of(0, 0), 6.0f);
        Check.same("impulse of the first", solver.ofRow(0, 0), 4.0f);
        Check.same("impulse of the second", solver.ofRow(1, 0), 2.0f);
        solver.step(1);
        // Both begin warm, at 6 + 4 + 2.
        Check.same("impulse of the first, warm", solver.ofRow(0, 0), -4.0f);
        Check.same("impulse of the second, warm", solver.ofRow(1, 0), 4.0f);
        Check.same("V", solver.of(0, 0), 6.0f);
    }

    /** The second row begins at its lower limit, and so the first one meets V = 6. */
    private static void beginsWithinLimits() {
        IslandSolver solver = Worlds.points(1);
        solver.settings(1, 1, 0, 0);
        Worlds.alongX(solver, 0, NONE, 4, 0);
        solver.row(0, NONE, 100, 0, 6, 8, 1);
        solver.step(1);
        Check.same("impulse of the first", solver.ofRow(0, 0), -2.0f);
        Check.same("impulse of the second", solver.ofRow(1, 0), 8.0f);
        Check.same("V", solver.of(0, 0), 6.0f);
    }

    /** The row that rubs begins with what the other one has been warmed to by then. */
    private static void rubsAtTheImpulseAsItIsThen() {
        IslandSolver solver = Worlds.points(1);
        solver.settings(1, 0.5f, 0, 0);
        solver.vector(0, 0, 1, 0);
        solver.row(0, NONE, 0, 0, 0, 100, 0);
        solver.vector(0, 1, 0, 0);
        solver.rub(0, NONE, 0, 0, 1, 1);
        solver.set(0, 100, -8, 0, 0, 0, 0);
        solver.step(1);
        Check.same("impulse that presses", solver.ofRow(0, 0), 8.0f);
        Check.same("impulse that rubs", solver.ofRow(1, 0), -8.0f);
        solver.settings(1, 0, 0, 0);
        solver.set(0, 100, -2, 0, 0, 0, 0);
        solver.step(1);
        Check.same("impulse that presses less", solver.ofRow(0, 0), 2.0f);
        Check.same("impulse that rubs less", solver.ofRow(1, 0), -2.0f);
        Check.same("V", solver.of(0, 0), 98.0f);
    }

    private static void countsOneThatIsNotMovable() {
        IslandSolver solver = new IslandSolver();
        solver.body(0, 0, 0, 0);
        solver.body(1, 1, 1, 1);
        solver.lean(0, 4, 4, 4);
        solver.set(0, 10, 0, 0, 0, 5, 0);
        solver.vector(0, 1, 0, 0);
        solver.vector(1, 1, 1, 1);
        solver.row(0, 1, 0, 0, -100, 100, 0);
        Check.same("its leaning is of no meaning", solver.ofRow(0, 2), 1.0f);
        Check.same("its V and S are", solver.ofRow(0, 1), 15.0f);
        solver.step(1);
        Check.same("its V stays", solver.of(0, 0), 10.0f);
        Check.same("its S stays", solver.of(0, 4), 5.0f);
        Check.same("V of the other one", solver.of(1, 0), 15.0f);
        Check.same("impulse", solver.ofRow(0, 0), -15.0f);
        solver.clear();
        solver.row(1, 0, 0, 0, -100, 100, 0);
        solver.set(0, -0.0f, -0.0f, -0.0f, -0.0f, -0.0f, -0.0f);
        solver.step(1);
        for (int what = 0; what < 6; what++) {
            Check.same("b stays, to the last bit: of(0, " + what + ")", solver.of(0, what), -0.0f);
        }
    }

    private static void leavesDeadRows() {
        IslandSolver solver = new IslandSolver();
        solver.body(1, 0, 0, 0);
        solver.body(0, 0, 0, 0);
        solver.body(0, 0, 0, 0);
        Worlds.alongX(solver, 0, NONE, 7, 1);
        solver.step(1);
        solver.clear();
        solver.row(1, 2, 0, 1, -100, 100, 1);
        solver.vector(0, 0, 0, 0);
        solver.row(0, NONE, 9, 0, -100, 100, 1);
        Check.same("rows that are dead", solver.count(6), 2);
        Check.same("impulse of the dead row before", solver.ofRow(1, 0), 7.0f);
        solver.step(1);
        Check.same("impulse of the dead row", solver.ofRow(1, 0), 0.0f);
        Check.same("V", solver.of(0, 0), 7.0f);
        Check.same("impulse of a row without a movable body", solver.ofRow(0, 0), 7.0f);
    }

    private static void deadIsBelowTheEdge() {
        float edge = 1.0f / (1 << 20);
        for (float w : new float[] {edge, Worlds.below(edge)}) {
            IslandSolver solver = new IslandSolver();
            solver.body(w, 0, 0, 0);
            Worlds.alongX(solver, 0, NONE, edge, 0);
            solver.step(1);
            Check.same("dead at " + w, solver.count(6), w < edge ? 1 : 0);
            Check.same("impulse at " + w, solver.ofRow(0, 0), w < edge ? 0.0f : 1.0f);
        }
        IslandSolver below = new IslandSolver();
        below.body(0, 1, 1, 1);
        below.lean(0, 4, 0, 0);
        below.vector(1, 1, -1, 0);
        below.row(0, NONE, 1, 0, -100, 100, 0);
        Check.same("stiffness below 0", below.ofRow(0, 2), -6.0f);
        below.step(1);
        Check.same("its impulse", below.ofRow(0, 0), 0.0f);
        Check.same("its spin", below.of(0, 3), 0.0f);
    }

    private static void holdsSpeeds() {
        IslandSolver solver = new IslandSolver();
        solver.body(16, 16, 16, 16);
        solver.body(16, 16, 16, 16);
        solver.vector(0, 64, -64, 1);
        solver.vector(1, 64, -64, 1);
        solver.vector(2, -64, 64, 1);
        solver.row(0, 1, 0, 0, 1000, 1000, 0);
        solver.step(1);
        float[] first = {4096, -4096, 4096, 4096, -4096, 4096};
        float[] second = {-4096, 4096, -4096, 4096, -4096, -4096};
        for (int what = 0; what < 6; what++) {
            Check.same("of(0, " + what + ")", solver.of(0, what), first[what]);
            Check.same("of(1, " + what + ")", solver.of(1, what), second[what]);
        }
    }

    /** Sums that another order rounds otherwise: 16777216 + 1 is 16777216. */
    private static void keepsTheOrderOfSums() {
        IslandSolver solver = new IslandSolver();
        solver.body(1, 1, 1, 1);
        solver.body(1, 1, 1, 1);
        solver.set(0, 1024, 0, 0, 1, 0, 0);
        solver.set(1, 1024, 0, 0, 0.001f, 0, 0);
        solver.vector(0, 64, 0, 0);
        solver.vector(1, 0.003f, 0, 0);
        solver.vector(2, 1, 0, 0);
        solver.row(0, 1, 0, 0.0007f, -100, 100, 0);
        float n = 64.0f * 1024.0f;
        Check.same("speed", solver.ofRow(0, 1), n + 0.003f - n - 0.001f);
        float p = 0.003f * 0.003f;
        Check.same("stiffness", solver.ofRow(0, 2), 4096.0f + p + 4096.0f + 1.0f + 0.0007f);
        IslandSolver heavy = new IslandSolver();
        heavy.body(0.001f, 1, 1, 1);
        heavy.body(16, 1, 1, 1);
        heavy.vector(0, 64, 0, 0);
        heavy.vector(1, 0.06f, 0, 0);
        heavy.vector(2, 0.06f, 0, 0);
        heavy.row(0, 1, 0, 0.003f, -100, 100, 0);
        float turn = 0.06f * 0.06f;
        float due = 0.001f * 4096.0f + turn + 65536.0f + turn + 0.003f;
        Check.same("stiffness, left to right", heavy.ofRow(0, 2), due);
        Check.that("another order is another number", due != (0.001f + 16) * 4096.0f + turn + turn + 0.003f);
    }

    private static void countsSteps() {
        IslandSolver solver = Worlds.points(1);
        solver.set(0, 1, 0, 0, 0, 0, 0);
        Check.same("step(1)", solver.step(1), 1);
        Check.same("step(20)", solver.step(20), 1);
        Check.same("steps", solver.count(5), 21);
        IslandSolver one = Worlds.points(3);
        IslandSolver other = Worlds.points(3);
        for (IslandSolver each : new IslandSolver[] {one, other}) {
            Worlds.alongX(each, 0, 1, 0.3f, 0);
            Worlds.alongX(each, 1, 2, 0.1f, 1);
            each.set(1, 7, 0, 0, 0, 0, 0);
        }
        one.step(7);
        for (int i = 0; i < 7; i++) {
            other.step(1);
        }
        Check.same("7 steps at once", Worlds.picture(one), Worlds.picture(other));
    }

    private static void refusesWrongNumbers() {
        IslandSolver solver = Worlds.points(2);
        Worlds.alongX(solver, 0, 1, 1, 0);
        for (int n : new int[] {0, 21, -1, Integer.MIN_VALUE, Integer.MAX_VALUE}) {
            Check.argument("step(" + n + ")", solver, () -> solver.step(n));
        }
    }
}
