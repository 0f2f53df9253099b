/** Promise 15: about. */
public final class Promise15AboutTest {
    private static final int NONE = IslandSolver.NONE;

    public static void main(String[] args) {
        numbersIslands();
        isNotJoinedByWhatIsNotMovable();
        joinsChainsInAnyOrder();
        countsRows();
        tellsSleepAndQuiet();
        refusesWrongCalls();
        Check.end();
    }

    private static void islands(String when, IslandSolver solver, int... due) {
        int most = NONE;
        for (int i = 0; i < due.length; i++) {
            Check.same(when + ": island of " + i, solver.about(i, 0), due[i]);
            most = Math.max(most, due[i]);
        }
        Check.same(when + ": islands", solver.count(2), most + 1);
    }

    private static void numbersIslands() {
        IslandSolver solver = new IslandSolver();
        for (int i = 0; i < 7; i++) {
            solver.body(i == 1 || i == 4 ? 0 : 1, 0, 0, 0);
        }
        islands("alone", solver, 0, NONE, 1, 2, NONE, 3, 4);
        Worlds.alongX(solver, 6, 2, 0, 0);
        islands("6 and 2", solver, 0, NONE, 1, 2, NONE, 3, 1);
        Worlds.alongX(solver, 0, 4, 0, 0);
        Worlds.alongX(solver, 4, 5, 0, 0);
        Worlds.alongX(solver, 1, 4, 0, 0);
        Worlds.alongX(solver, 3, NONE, 0, 0);
        islands("one that is not movable joins nothing", solver, 0, NONE, 1, 2, NONE, 3, 1);
        solver.vector(0, 0, 0, 0);
        solver.row(5, 6, 0, 0, 0, 0, 0);
        islands("a dead row joins", solver, 0, NONE, 1, 2, NONE, 1, 1);
        solver.rub(5, 6, 0, 5, 1, 0);
        islands("a row that rubs", solver, 0, NONE, 1, 2, NONE, 1, 1);
        Worlds.alongX(solver, 5, 0, 0, 0);
        islands("5 and 0", solver, 0, NONE, 0, 1, NONE, 0, 0);
        solver.clear();
        islands("cleared", solver, 0, NONE, 1, 2, NONE, 3, 4);
    }

    /** Two bodies that have rows with the same floor, on either side of a row, or with NONE. */
    private static void isNotJoinedByWhatIsNotMovable() {
        int[][] sides = {{0, 1}, {1, 0}};
        for (int[] side : sides) {
            IslandSolver solver = new IslandSolver();
            solver.body(0, 0, 0, 0);
            solver.body(1, 0, 0, 0);
            solver.body(0, 0, 0, 1);
            for (int i = 1; i <= 2; i++) {
                int[] pair = {i, 0};
                Worlds.alongX(solver, pair[side[0]], pair[side[1]], 0, 0);
                Worlds.alongX(solver, i, NONE, 0, 0);
            }
            islands("on one floor", solver, NONE, 0, 1);
            Check.same("rows of the floor", solver.about(0, 3), 2);
            solver.settings(8, 1, 1, 1);
            solver.set(2, 9, 0, 0, 0, 9, 0);
            Check.same("one sleeps, the other does not", solver.step(1), 1);
            Check.same("the one that sleeps", solver.about(1, 1), 1);
            Check.same("the floor never sleeps", solver.about(0, 1), 0);
        }
    }

    private static void joinsChainsInAnyOrder() {
        IslandSolver back = Worlds.points(60);
        IslandSolver mixed = Worlds.points(60);
        for (int i = 58; i >= 0; i--) {
            Worlds.alongX(back, i, i + 1, 0, 0);
        }
        for (int i = 0; i < 59; i++) {
            int from = i * 17 % 59;
            Worlds.alongX(mixed, from + 1, from, 0, 0);
        }
        for (int i = 0; i < 60; i++) {
            Check.same("from the back: island of " + i, back.about(i, 0), 0);
            Check.same("mixed: island of " + i, mixed.about(i, 0), 0);
        }
    }

    private static void countsRows() {
        IslandSolver solver = Worlds.points(2);
        solver.body(0, 0, 0, 0);
        Worlds.alongX(solver, 0, 1, 0, 0);
        solver.rub(0, 1, 0, 0, 1, 0);
        Worlds.alongX(solver, 2, 0, 0, 0);
        Worlds.alongX(solver, 2, NONE, 0, 0);
        int[] due = {3, 2, 2};
        for (int i = 0; i < 3; i++) {
            Check.same("rows of " + i, solver.about(i, 3), due[i]);
        }
        solver.clear();
        for (int i = 0; i < 3; i++) {
            Check.same("rows of " + i + ", cleared", solver.about(i, 3), 0);
        }
        Worlds.alongX(solver, 0, 1, 0, 0);
        Check.same("rows of 0, anew", solver.about(0, 3), 1);
    }

    private static void tellsSleepAndQuiet() {
        IslandSolver solver = Worlds.points(2);
        solver.body(0, 0, 0, 0);
        solver.settings(8, 1, 1, 3);
        solver.set(1, 2, 0, 0, 0, 0, 0);
        int[][] quiet = {{1, 0, 0}, {2, 0, 0}, {3, 0, 0}, {3, 0, 0}};
        for (int step = 0; step < 4; step++) {
            solver.step(1);
            for (int i = 0; i < 3; i++) {
                Check.same("quiet " + i + " behind step " + step, solver.about(i, 2), quiet[step][i]);
            }
            Check.same("asleep behind step " + step, solver.about(0, 1), step >= 2 ? 1 : 0);
            Check.same("one that moves", solver.about(1, 1), 0);
            Check.same("one that is not movable", solver.about(2, 1), 0);
        }
    }

    private static void refusesWrongCalls() {
        IslandSolver solver = Worlds.points(2);
        for (int body : new int[] {-1, 2, Integer.MIN_VALUE, Integer.MAX_VALUE}) {
            Check.index("about(" + body + ", 0)", solver, () -> solver.about(body, 0));
            Check.index("about(" + body + ", 4)", solver, () -> solver.about(body, 4));
        }
        for (int what : new int[] {-1, 4, Integer.MIN_VALUE, Integer.MAX_VALUE}) {
            Check.index("about(0, " + what + ")", solver, () -> solver.about(0, what));
        }
    }
}
