/** Promise 18: motion. */
public final class Promise18MotionTest {
    public static void main(String[] args) {
        sumsMovableBodies();
        keepsTheOrder();
        isNothingAsleep();
        Check.end();
    }

    private static void sumsMovableBodies() {
        IslandSolver solver = new IslandSolver();
        Check.same("of nothing", solver.motion(), 0.0f);
        solver.body(1, 0, 0, 0);
        solver.body(0, 0, 0, 0);
        solver.body(0, 0, 0, 1);
        Check.same("of what stands", solver.motion(), 0.0f);
        solver.set(0, 1, 2, 3, 4, 5, 6);
        Check.same("of one", solver.motion(), 91.0f);
        solver.set(1, 100, 0, 0, 0, 0, 0);
        Check.same("one that is not movable counts nothing", solver.motion(), 91.0f);
        solver.set(2, 0, 0, -10, 0, 0.5f, 0);
        Check.same("of two", solver.motion(), 191.25f);
    }

    /** 4096 * 4096 is 16777216, to which 1 alone adds nothing, but 1 + 1 adds 2. */
    private static void keepsTheOrder() {
        IslandSolver solver = Worlds.points(2);
        solver.set(1, 1, 0, 0, 1, 0, 0);
        for (int i = 0; i < 64; i++) {
            solver.gain(0, 0, 64, 0, 0);
        }
        Check.same("V of the first", solver.of(0, 0), 4096.0f);
        Check.same("body by body", solver.motion(), 16777218.0f);
        IslandSolver turned = Worlds.points(3);
        turned.set(1, 1, 0, 0, 0, 0, 0);
        turned.set(2, 1, 0, 0, 0, 0, 0);
        for (int i = 0; i < 64; i++) {
            turned.gain(0, 0, 64, 0, 0);
        }
        Check.same("in their order", turned.motion(), 16777216.0f);
    }

    private static void isNothingAsleep() {
        IslandSolver solver = Worlds.points(1);
        solver.settings(8, 1, 64, 1);
        solver.set(0, 1, 0, 0, 0, 0, 0);
        Check.same("awake", solver.motion(), 1.0f);
        solver.step(1);
        Check.same("asleep", solver.motion(), 0.0f);
    }
}
