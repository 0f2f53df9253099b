/** Promise 12: workers. */
public final class Promise12WorkersTest {
    private static final int NONE = IslandSolver.NONE;

    public static void main(String[] args) {
        tellsHowManyThereWere();
        changesNothing();
        changesNothingForFewOrManyIslands();
        refusesWrongNumbers();
        Check.end();
    }

    private static void tellsHowManyThereWere() {
        IslandSolver solver = new IslandSolver();
        Check.same("at first", solver.workers(8), 1);
        Check.same("behind 8", solver.workers(1), 8);
        Check.same("behind 1", solver.workers(5), 1);
        Check.same("behind 5", solver.workers(5), 5);
    }

    /** 30 bodies in islands of several sizes that share a floor, some of which fall asleep on the way. */
    private static String islandsWith(int workers) {
        IslandSolver solver = new IslandSolver();
        solver.settings(5, 0.9f, 0.5f, 2);
        solver.workers(workers);
        solver.body(0, 0, 0, 0);
        solver.set(0, 0.3f, 0, 0, 0, 0.1f, 0);
        for (int i = 1; i <= 30; i++) {
            solver.body(0.1f * i, 0.3f, 0.2f * (i % 7), 0.7f);
            solver.lean(i, 0.01f * i, 0.02f, -0.01f);
            solver.set(i, i % 5 == 0 ? 0 : 0.7f * i, -0.3f, 0.1f * (i % 3), 0, i % 4 == 0 ? 1.3f : 0, 0);
        }
        for (int i = 30; i >= 1; i--) {
            solver.vector(0, 0.3f, 1, 0.01f * i);
            solver.vector(1, 0.1f * i, 0, 0.7f);
            solver.vector(2, 0, 0.3f, -0.1f * i);
            int row = solver.row(i, 0, 0, i % 2, 0, 100, i);
            solver.vector(0, 1, 0.1f, 0);
            solver.rub(i, 0, 0, row, 0.7f, i + 100);
            if (i > 4 && i % 3 != 0) {
                solver.row(i, i - 3, 0.1f, 0.3f, -50, 50, i + 200);
            }
        }
        String text = "";
        for (int step = 0; step < 12; step++) {
            text += solver.step(1) + "\n" + Worlds.picture(solver);
            solver.gain(1, 6, 0, -0.1f, 0);
        }
        return text;
    }

    private static void changesNothing() {
        String due = islandsWith(1);
        for (int workers = 2; workers <= 8; workers++) {
            Check.same("islands with " + workers + " workers", islandsWith(workers), due);
        }
    }

    /** Pairs of bodies, each an island; every third one sleeps and is not dealt out. */
    private static String pairs(int islands, int workers) {
        IslandSolver solver = Worlds.sleepers(2 * islands);
        solver.workers(workers);
        for (int i = 0; i < islands; i++) {
            Worlds.alongX(solver, 2 * i, 2 * i + 1, 0.3f * i, i);
            Worlds.alongX(solver, 2 * i + 1, NONE, 0.7f, i);
            if (i % 3 != 2) {
                solver.set(2 * i, 0.1f * i, 9, 0, 0, 0, 0);
            }
        }
        return solver.step(1) + "\n" + Worlds.picture(solver) + solver.step(2) + "\n" + Worlds.picture(solver);
    }

    /** No island, fewer than workers, just as many, one more, and more than twice as many. */
    private static void changesNothingForFewOrManyIslands() {
        for (int islands : new int[] {0, 1, 2, 7, 8, 9, 11, 12, 13, 20}) {
            String due = pairs(islands, 1);
            for (int workers = 2; workers <= 8; workers++) {
                Check.same(islands + " islands with " + workers + " workers", pairs(islands, workers), due);
            }
        }
    }

    private static void refusesWrongNumbers() {
        IslandSolver solver = Worlds.points(1);
        solver.workers(3);
        for (int n : new int[] {0, 9, -1, Integer.MIN_VALUE, Integer.MAX_VALUE}) {
            Check.argument("workers(" + n + ")", solver, () -> solver.workers(n));
        }
        Check.same("how many there are still", solver.workers(1), 3);
    }
}
