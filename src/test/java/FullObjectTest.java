/** As many bodies as there can be, alone and in one island, and as many rows. */
public final class FullObjectTest {
    private static final int NONE = IslandSolver.NONE;

    public static void main(String[] args) {
        isFull();
        sleepsAndWakesWhenFull();
        isOneIsland(false);
        isOneIsland(true);
        hasAllRows();
        isFilledAnew();
        Check.end();
    }

    private static void isFull() {
        IslandSolver solver = new IslandSolver();
        for (int i = 0; i < 256; i++) {
            Check.same("body " + i, solver.body(i % 2, 0, 0, 0), i);
        }
        Check.state("body 256", solver, () -> solver.body(1, 0, 0, 0));
        Check.state("body 256 that is not movable", solver, () -> solver.body(0, 0, 0, 0));
        Check.same("bodies", solver.count(0), 256);
        Check.same("islands", solver.count(2), 128);
        Check.same("gain of all", solver.gain(0, 255, 1, 0, 0), 128);
        Check.same("the last body", solver.of(255, 0), 1.0f);
        Check.index("no body behind it", solver, () -> solver.of(256, 0));
        Check.same("a row of the last body", Worlds.alongX(solver, 255, 254, 0, 0), 0);
        Check.same("motion of all", solver.motion(), 128.0f);
    }

    private static void sleepsAndWakesWhenFull() {
        IslandSolver solver = Worlds.points(256);
        solver.workers(8);
        solver.settings(8, 1, 64, 2);
        Check.same("islands that do not sleep", solver.step(1), 256);
        Check.same("islands that do not sleep behind two steps", solver.step(1), 0);
        Check.same("islands that sleep", solver.count(3), 256);
        Check.same("bodies that are asleep", solver.count(4), 256);
        Check.same("wake of the last", solver.wake(255), true);
        Check.same("one that does not sleep", solver.step(1), 1);
        Check.same("the others sleep on", solver.count(4), 255);
        Check.same("all asleep again", solver.step(1), 0);
    }

    /** A chain through all bodies, from the first pair or from the last one on. */
    private static void isOneIsland(boolean backwards) {
        IslandSolver solver = Worlds.points(256);
        solver.vector(0, 1, 0, 0);
        for (int i = 0; i < 255; i++) {
            int from = backwards ? 254 - i : i;
            solver.row(from, from + 1, 0, 0, -100, 100, i);
        }
        Check.same("islands", solver.count(2), 1);
        Check.same("island of the last", solver.about(255, 0), 0);
        solver.settings(1, 1, 64, 1);
        Check.same("all asleep at once", solver.step(1), 0);
        Check.same("bodies that are asleep", solver.count(4), 256);
        solver.set(255, 1024, 0, 0, 0, 0, 0);
        Check.same("all awake at once", solver.step(1), 1);
        Check.same("bodies that are asleep behind it", solver.count(4), 0);
        solver.clear();
        Check.same("islands when cleared", solver.count(2), 256);
        Check.same("island of the last when cleared", solver.about(255, 0), 255);
    }

    private static void hasAllRows() {
        IslandSolver solver = Worlds.points(3);
        solver.vector(0, 1, 0, 0);
        for (int i = 0; i < 1024; i++) {
            int number = i % 2 == 0 ? solver.row(0, 1, 0, 0, 0, 1, i) : solver.rub(0, 1, 0, i - 1, 1, i);
            Check.same("row " + i, number, i);
        }
        Check.state("row 1024", solver, () -> solver.row(0, NONE, 0, 0, 0, 1, 0));
        Check.state("row 1024 that rubs", solver, () -> solver.rub(0, 1, 0, 0, 1, 0));
        Check.same("rows", solver.count(1), 1024);
        Check.same("rows of a", solver.about(0, 3), 1024);
        Check.same("rows of b", solver.about(1, 3), 1024);
        Check.same("rows of another", solver.about(2, 3), 0);
        Check.same("stiffness of the last", solver.ofRow(1023, 2), 2.0f);
        Check.index("no row behind it", solver, () -> solver.ofRow(1024, 2));
        Check.same("a step", solver.step(1), 2);
        Check.same("clear()", solver.clear(), 1024);
    }

    /** When a full object has been cleared, there is place for just as many rows again. */
    private static void isFilledAnew() {
        IslandSolver solver = Worlds.points(1);
        solver.vector(0, 1, 0, 0);
        for (int time = 0; time < 3; time++) {
            for (int i = 0; i < 1024; i++) {
                solver.row(0, NONE, 1, 1, 0, 1, i);
            }
            Check.state("row 1024, time " + time, solver, () -> solver.row(0, NONE, 0, 0, 0, 1, 0));
            solver.step(1);
            float last = solver.ofRow(1023, 0);
            Check.same("clear() of time " + time, solver.clear(), 1024);
            solver.row(0, NONE, 0, 0, 0, 1, 1023);
            Check.same("kept of the last row", solver.ofRow(0, 0), last);
            Check.same("clear() of one", solver.clear(), 1);
        }
    }
}
