/** Promise 11: settings. */
public final class Promise11SettingsTest {
    private static final int NONE = IslandSolver.NONE;

    public static void main(String[] args) {
        setsRounds();
        setsWarm();
        setsCalm();
        setsStill();
        takesTheEdges();
        refusesWrongNumbers();
        Check.end();
    }

    /** A chain of three, of which the first moves: round by round the others take up its speed. */
    private static void setsRounds() {
        float[] due = {25, 31.25f, 32.8125f};
        for (int rounds = 1; rounds <= 3; rounds++) {
            IslandSolver solver = Worlds.points(3);
            solver.settings(rounds, 1, 0, 0);
            Worlds.alongX(solver, 0, 1, 0, 0);
            Worlds.alongX(solver, 1, 2, 0, 1);
            solver.set(0, 100, 0, 0, 0, 0, 0);
            solver.step(1);
            Check.same("V of the last behind " + rounds + " rounds", solver.of(2, 0), due[rounds - 1]);
        }
    }

    /**
     * Two rows of one body that want 4 and 6 have the impulses 4 and 2 behind a step of one round;
     * the next one begins at V = 6 + 4 * WARM + 2 * WARM.
     */
    private static void setsWarm() {
        for (float warm : new float[] {0, 0.25f, 0.5f, 1}) {
            IslandSolver solver = Worlds.points(1);
            solver.settings(1, warm, 0, 0);
            Worlds.alongX(solver, 0, NONE, 4, 0);
            Worlds.alongX(solver, 0, NONE, 6, 1);
            solver.step(1);
            Check.same("the first impulse at first", solver.ofRow(0, 0), 4.0f);
            Check.same("the second impulse at first", solver.ofRow(1, 0), 2.0f);
            solver.step(1);
            Check.same("the first impulse, WARM " + warm, solver.ofRow(0, 0), -2 - 2 * warm);
            Check.same("the second impulse, WARM " + warm, solver.ofRow(1, 0), 2 + 2 * warm);
        }
    }

    private static void setsCalm() {
        float[] calms = {0, 0.25f, 0.5f, 64};
        int[] due = {0, 0, 1, 1};
        for (int i = 0; i < calms.length; i++) {
            IslandSolver solver = Worlds.points(1);
            solver.settings(8, 1, calms[i], 0);
            solver.set(0, 0, 0.5f, 0, 0, 0, 0);
            solver.step(1);
            Check.same("quiet at CALM " + calms[i], solver.about(0, 2), due[i]);
        }
    }

    private static void setsStill() {
        for (int still = 1; still <= 5; still++) {
            IslandSolver solver = Worlds.points(1);
            solver.settings(8, 1, 1, still);
            for (int step = 1; step <= 6; step++) {
                solver.step(1);
                Check.same("asleep behind step " + step + " with STILL " + still,
                        solver.about(0, 1), step >= still ? 1 : 0);
            }
        }
        IslandSolver solver = Worlds.points(1);
        solver.settings(8, 1, 1, 0);
        solver.step(20);
        Check.same("asleep with STILL 0", solver.about(0, 1), 0);
        solver.settings(8, 1, 1, 100);
        for (int i = 0; i < 4; i++) {
            solver.step(20);
        }
        Check.same("asleep behind 100 steps", solver.about(0, 1), 1);
        Check.same("quiet for 100 steps", solver.about(0, 2), 100);
    }

    private static void takesTheEdges() {
        IslandSolver solver = Worlds.points(1);
        solver.settings(1, 0, 0, 0);
        solver.settings(16, 1, 64, 100);
        solver.settings(16, -0.0f, -0.0f, 0);
        Check.same("a step with them", solver.step(1), 1);
    }

    private static void refusesWrongNumbers() {
        IslandSolver solver = Worlds.points(3);
        solver.settings(2, 0.5f, 2, 3);
        for (int rounds : new int[] {0, 17, -1, Integer.MIN_VALUE, Integer.MAX_VALUE}) {
            Check.argument("rounds " + rounds, solver, () -> solver.settings(rounds, 1, 1, 1));
        }
        for (float x : Worlds.outside(0, 1)) {
            Check.argument("warm " + x, solver, () -> solver.settings(1, x, 1, 1));
        }
        for (float x : Worlds.outside(0, 64)) {
            Check.argument("calm " + x, solver, () -> solver.settings(1, 1, x, 1));
        }
        for (int still : new int[] {-1, 101, Integer.MIN_VALUE, Integer.MAX_VALUE}) {
            Check.argument("still " + still, solver, () -> solver.settings(1, 1, 1, still));
        }
        IslandSolver twin = Worlds.points(3);
        twin.settings(2, 0.5f, 2, 3);
        Check.same("what runs behind wrong settings", runOf(solver), runOf(twin));
    }

    private static String runOf(IslandSolver solver) {
        Worlds.alongX(solver, 0, 1, 0, 0);
        Worlds.alongX(solver, 1, 2, 0.5f, 1);
        solver.set(0, 3, 0, 0, 0, 0, 0);
        String text = "";
        for (int i = 0; i < 6; i++) {
            solver.step(1);
            text += Worlds.picture(solver);
        }
        return text;
    }
}
