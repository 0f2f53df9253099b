/** Promise 4: set. */
public final class Promise04SetTest {
    public static void main(String[] args) {
        setsAll();
        setsOneThatIsNotMovable();
        wakes();
        refusesWrongCalls();
        Check.end();
    }

    private static void setsAll() {
        IslandSolver solver = Worlds.points(2);
        solver.set(1, 1, -2, 3.5f, -1024, 1024, -0.0f);
        float[] due = {1, -2, 3.5f, -1024, 1024, -0.0f};
        for (int what = 0; what < 6; what++) {
            Check.same("of(1, " + what + ")", solver.of(1, what), due[what]);
            Check.same("of(0, " + what + ")", solver.of(0, what), 0.0f);
        }
        solver.set(1, 0, 0, 0, 0, 0, 7);
        Check.same("V behind a second set", solver.of(1, 0), 0.0f);
        Check.same("S behind a second set", solver.of(1, 5), 7.0f);
    }

    private static void setsOneThatIsNotMovable() {
        IslandSolver solver = new IslandSolver();
        solver.body(0, 0, 0, 0);
        solver.set(0, 5, 0, 0, 0, 6, 0);
        solver.step(2);
        Check.same("V of one that is not movable", solver.of(0, 0), 5.0f);
        Check.same("S of one that is not movable", solver.of(0, 4), 6.0f);
    }

    private static void wakes() {
        IslandSolver solver = Worlds.sleepers(2);
        solver.set(1, 0, 0, 0, 0, 0, 0);
        Check.same("asleep behind set", solver.about(1, 1), 0);
        Check.same("quiet behind set", solver.about(1, 2), 0);
        Check.same("the other one sleeps on", solver.about(0, 1), 1);
        solver.settings(8, 1, 64, 5);
        solver.step(2);
        Check.same("quiet awake", solver.about(1, 2), 2);
        solver.set(1, 1, 0, 0, 0, 0, 0);
        Check.same("quiet behind set of one that was awake", solver.about(1, 2), 0);
    }

    private static void refusesWrongCalls() {
        IslandSolver solver = Worlds.sleepers(2);
        for (int body : new int[] {-1, 2, Integer.MIN_VALUE, Integer.MAX_VALUE}) {
            Check.index("set of body " + body, solver, () -> solver.set(body, 0, 0, 0, 0, 0, 0));
            Check.index("set of body " + body + ", wrong", solver, () -> solver.set(body, 2000, 0, 0, 0, 0, 0));
        }
        for (float x : Worlds.outside(-1024, 1024)) {
            for (int place = 0; place < 6; place++) {
                float[] p = new float[6];
                p[place] = x;
                Check.argument("place " + place + " " + x, solver,
                        () -> solver.set(0, p[0], p[1], p[2], p[3], p[4], p[5]));
            }
        }
    }
}
