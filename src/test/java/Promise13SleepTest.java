/** Promise 13 once more: islands that come to rest, sleep and wake as a whole. */
public final class Promise13SleepTest {
    private static final int NONE = IslandSolver.NONE;

    public static void main(String[] args) {
        sleepsAsAWhole();
        stopsWhenItFallsAsleep();
        sleepsThroughSteps();
        wakesAsAWhole();
        wakesWhatItIsJoinedTo();
        deadRowsJoinToo();
        fallsApart();
        isQuietFromAnew();
        Check.end();
    }

    private static void sleepsAsAWhole() {
        IslandSolver solver = Worlds.points(3);
        solver.settings(8, 1, 1, 2);
        solver.vector(0, 0, 0, 1);
        solver.row(0, 2, 0, 0, -1, 1, 0);
        solver.set(2, 5, 0, 0, 0, 0, 0);
        Check.same("the first step", solver.step(1), 2);
        Check.same("the second step", solver.step(1), 1);
        Check.same("the one alone sleeps", solver.about(1, 1), 1);
        Check.same("one in an island with a fast one does not", solver.about(0, 1), 0);
        Check.same("though it has been quiet", solver.about(0, 2), 2);
        solver.set(2, 0.5f, 0, 0, 0, 0, 0);
        Check.same("the fast one is quiet for one step", solver.step(1), 1);
        Check.same("quiet of the other one", solver.about(0, 2), 3);
        Check.same("quiet for two", solver.step(1), 0);
        Check.same("islands that sleep", solver.count(3), 2);
        Check.same("bodies that are asleep", solver.count(4), 3);
    }

    private static void stopsWhenItFallsAsleep() {
        IslandSolver solver = Worlds.points(1);
        solver.settings(8, 1, 64, 2);
        solver.set(0, 1, 2, 3, -1, -2, -3);
        solver.step(1);
        Check.same("V before", solver.of(0, 1), 2.0f);
        solver.step(1);
        for (int what = 0; what < 6; what++) {
            Check.same("of(0, " + what + ") asleep", solver.of(0, what), 0.0f);
        }
        Check.same("quiet asleep", solver.about(0, 2), 2);
    }

    private static void sleepsThroughSteps() {
        IslandSolver solver = Worlds.sleepers(2);
        Worlds.alongX(solver, 0, 1, 100, 0);
        Worlds.alongX(solver, 0, NONE, 100, 0);
        Check.same("a row alone wakes nobody", solver.step(5), 0);
        Check.same("V asleep", solver.of(0, 0), 0.0f);
        Check.same("impulse asleep", solver.ofRow(0, 0), 0.0f);
        Check.same("quiet asleep", solver.about(0, 2), 1);
        solver.settings(8, 1, 64, 0);
        Check.same("STILL 0 wakes nobody", solver.step(1), 0);
        Check.same("steps go on", solver.count(5), 7);
    }

    private static void wakesAsAWhole() {
        IslandSolver solver = Worlds.sleepers(4);
        Worlds.alongX(solver, 0, 1, 0, 0);
        Worlds.alongX(solver, 1, 2, 0, 1);
        solver.settings(8, 1, 64, 10);
        solver.wake(2);
        Check.same("islands that sleep", solver.count(3), 1);
        Check.same("bodies that are asleep before the step", solver.count(4), 3);
        Check.same("islands that do not sleep", solver.step(1), 1);
        int[] asleep = {0, 0, 0, 1};
        for (int i = 0; i < 4; i++) {
            Check.same("asleep " + i, solver.about(i, 1), asleep[i]);
            Check.same("quiet " + i, solver.about(i, 2), 1);
        }
        solver.step(3);
        Check.same("quiet of one that woke", solver.about(0, 2), 4);
    }

    private static void wakesWhatItIsJoinedTo() {
        IslandSolver solver = Worlds.sleepers(2);
        solver.body(1, 0, 0, 0);
        solver.body(0, 0, 0, 0);
        solver.set(2, 10, 0, 0, 0, 0, 0);
        Worlds.alongX(solver, 1, 2, 0, 0);
        Worlds.alongX(solver, 0, 3, 0, 1);
        solver.set(3, 8, 0, 0, 0, 0, 0);
        solver.settings(1, 1, 1, 1);
        Check.same("one island wakes", solver.step(1), 1);
        Check.same("V of the one that was hit", solver.of(1, 0), 5.0f);
        Check.same("it is awake", solver.about(1, 1), 0);
        Check.same("a moving floor wakes nobody", solver.about(0, 1), 1);
        Check.same("V on the floor", solver.of(0, 0), 0.0f);
    }

    private static void deadRowsJoinToo() {
        IslandSolver solver = Worlds.sleepers(2);
        solver.row(0, 1, 0, 0, 0, 0, 0);
        Check.same("the row is dead", solver.count(6), 1);
        Check.same("islands", solver.count(2), 1);
        solver.settings(8, 1, 64, 10);
        solver.wake(0);
        solver.step(1);
        Check.same("asleep", solver.count(4), 0);
    }

    private static void isQuietFromAnew() {
        IslandSolver solver = Worlds.points(1);
        solver.settings(8, 1, 1, 0);
        solver.step(3);
        Check.same("quiet at rest", solver.about(0, 2), 3);
        Worlds.alongX(solver, 0, NONE, 5, 0);
        solver.step(1);
        Check.same("quiet when a row moves it", solver.about(0, 2), 0);
        solver.clear();
        Worlds.alongX(solver, 0, NONE, 0, 0);
        solver.step(2);
        Check.same("quiet from anew", solver.about(0, 2), 2);
    }

    private static void fallsApart() {
        IslandSolver solver = Worlds.sleepers(2);
        Worlds.alongX(solver, 0, 1, 0, 0);
        solver.wake(0);
        Check.same("islands that sleep, joined", solver.count(3), 0);
        solver.clear();
        Check.same("islands that sleep, apart", solver.count(3), 1);
        solver.settings(8, 1, 64, 10);
        Check.same("a step apart", solver.step(1), 1);
        Check.same("the other one sleeps on", solver.about(1, 1), 1);
    }
}
