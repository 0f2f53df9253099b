/** Promise 1: no bodies, no rows; ROUNDS 8, WARM 1, CALM 0.0625, STILL 0. */
public final class Promise01NewObjectTest {
    public static void main(String[] args) {
        isEmpty();
        hasItsSettings();
        calmIsASixteenth();
        neverSleeps();
        sharesNothing();
        Check.end();
    }

    private static void isEmpty() {
        IslandSolver solver = new IslandSolver();
        for (int what = 0; what < 7; what++) {
            Check.same("count(" + what + ") of a new object", solver.count(what), 0);
        }
        Check.same("motion() of a new object", solver.motion(), 0.0f);
        Check.index("of(0, 0) of a new object", solver, () -> solver.of(0, 0));
        Check.index("ofRow(0, 0) of a new object", solver, () -> solver.ofRow(0, 0));
        Check.same("step(1) of a new object", solver.step(1), 0);
        Check.same("clear() of a new object", solver.clear(), 0);
        Check.same("workers(1) of a new object", solver.workers(1), 1);
        Check.same("NONE", IslandSolver.NONE, -1);
    }

    /** A chain that its rounds do not bring to an end: each number of rounds has its own answer. */
    private static String chain(boolean told, int rounds, float warm) {
        IslandSolver solver = Worlds.points(4);
        if (told) {
            solver.settings(rounds, warm, 0.0625f, 0);
        }
        Worlds.alongX(solver, 0, 1, 0, 0);
        Worlds.alongX(solver, 1, 2, 0, 1);
        Worlds.alongX(solver, 2, 3, 0, 2);
        solver.set(0, 100, 0, 0, 0, 0, 0);
        solver.step(2);
        return Worlds.picture(solver);
    }

    private static void hasItsSettings() {
        String first = chain(false, 0, 0);
        Check.same("a chain with the settings of a new object", first, chain(true, 8, 1));
        Check.that("7 rounds are others", !first.equals(chain(true, 7, 1)));
        Check.that("9 rounds are others", !first.equals(chain(true, 9, 1)));
        Check.that("a cooler start is another", !first.equals(chain(true, 8, 0.5f)));
    }

    private static void calmIsASixteenth() {
        IslandSolver solver = Worlds.points(2);
        solver.set(0, 0.25f, 0, 0, 0, 0, 0);
        solver.set(1, Worlds.below(0.25f), 0, 0, 0, 0, 0);
        solver.step(3);
        Check.same("quiet at just CALM", solver.about(0, 2), 0);
        Check.same("quiet below CALM", solver.about(1, 2), 3);
    }

    private static void neverSleeps() {
        IslandSolver solver = Worlds.points(1);
        for (int i = 0; i < 6; i++) {
            Check.same("islands awake with STILL 0", solver.step(20), 1);
        }
        Check.same("quiet all the time", solver.about(0, 2), 120);
        Check.same("asleep with STILL 0", solver.about(0, 1), 0);
    }

    private static void sharesNothing() {
        IslandSolver first = Worlds.points(3);
        Worlds.alongX(first, 0, 1, 4, 0);
        first.step(1);
        IslandSolver second = new IslandSolver();
        Check.same("bodies of a second object", second.count(0), 0);
        Check.same("rows of a second object", second.count(1), 0);
        Check.same("steps of a second object", second.count(5), 0);
    }
}
