/** Promise 5: gain. */
public final class Promise05GainTest {
    public static void main(String[] args) {
        gains();
        wakes();
        refusesWrongCalls();
        Check.end();
    }

    private static void gains() {
        IslandSolver solver = new IslandSolver();
        solver.body(1, 0, 0, 0);
        solver.body(0, 0, 0, 0);
        solver.body(0, 0, 1, 0);
        solver.body(1, 0, 0, 0);
        solver.set(0, 1, 2, 3, 4, 5, 6);
        Check.same("gain(0, 2)", solver.gain(0, 2, 64, -64, 0.5f), 2);
        float[] due = {65, -62, 3.5f, 4, 5, 6};
        for (int what = 0; what < 6; what++) {
            Check.same("of(0, " + what + ")", solver.of(0, what), due[what]);
            Check.same("not movable: of(1, " + what + ")", solver.of(1, what), 0.0f);
            Check.same("behind the last: of(3, " + what + ")", solver.of(3, what), 0.0f);
        }
        Check.same("W 0, but movable", solver.of(2, 1), -64.0f);
        Check.same("gain of one", solver.gain(3, 3, 0, 0, 1), 1);
        Check.same("gain of one that is not movable", solver.gain(1, 1, 0, 0, 1), 0);
        Check.same("V of it", solver.of(1, 2), 0.0f);
        Check.same("gain of all", solver.gain(0, 3, 0, 0, 0), 3);
    }

    private static void wakes() {
        IslandSolver solver = Worlds.sleepers(4);
        solver.gain(1, 2, 0, 0, 0);
        int[] due = {1, 0, 0, 1};
        for (int i = 0; i < 4; i++) {
            Check.same("asleep " + i, solver.about(i, 1), due[i]);
            Check.same("quiet " + i, solver.about(i, 2), due[i]);
        }
    }

    private static void refusesWrongCalls() {
        IslandSolver solver = Worlds.sleepers(3);
        int[][] wrong = {{-1, 0}, {0, 3}, {3, 3}, {2, 1}, {-1, -1}, {0, -1}, {0, Integer.MAX_VALUE},
            {Integer.MIN_VALUE, 2}, {Integer.MAX_VALUE, Integer.MAX_VALUE}};
        for (int[] pair : wrong) {
            String name = "gain(" + pair[0] + ", " + pair[1] + ")";
            Check.index(name, solver, () -> solver.gain(pair[0], pair[1], 1, 1, 1));
            Check.index(name + ", wrong", solver, () -> solver.gain(pair[0], pair[1], 65, 1, 1));
        }
        for (float x : Worlds.outside(-64, 64)) {
            Check.argument("x " + x, solver, () -> solver.gain(0, 2, x, 0, 0));
            Check.argument("y " + x, solver, () -> solver.gain(0, 2, 0, x, 0));
            Check.argument("z " + x, solver, () -> solver.gain(0, 2, 0, 0, x));
        }
    }
}
