/**
 * A refused call changes nothing, what no question tells included: the pad, the settings, the
 * workers and what is kept of cleared rows. Two worlds go the same way, but one of them has the
 * refused call on it.
 */
public final class RefusedCallsTest {
    private static final int NONE = IslandSolver.NONE;

    interface Act {
        void on(IslandSolver solver);
    }

    private static final Act[] REFUSED = {
        s -> s.body(1, 1, 1, 17),
        s -> s.body(-1, 1, 1, 1),
        s -> s.lean(0, 1, 1, 5),
        s -> s.lean(9, 1, 1, 1),
        s -> s.set(0, 1, 1, 1, 1, 1, 1025),
        s -> s.set(9, 1, 1, 1, 1, 1, 1),
        s -> s.gain(0, 3, 1, 1, 65),
        s -> s.gain(0, 9, 1, 1, 1),
        s -> s.gain(1, 0, 1, 1, 1),
        s -> s.wake(9),
        s -> s.wake(NONE),
        s -> s.vector(0, 5, 5, 65),
        s -> s.vector(1, 5, 5, 65),
        s -> s.vector(2, 5, 5, 65),
        s -> s.vector(3, 5, 5, 5),
        s -> s.row(0, 9, 1, 1, 0, 1, 3),
        s -> s.row(1, 1, 1, 1, 0, 1, 3),
        s -> s.row(0, 3, 1, 1, 1, 0, 3),
        s -> s.row(0, 3, 1, -1, 0, 1, 3),
        s -> s.rub(0, 3, 1, 9, 1, 3),
        s -> s.rub(0, 3, 1, 0, 1, 3),
        s -> s.rub(0, 1, 1, 0, 9, 3),
        s -> s.rub(0, 1, 1, 1, 1, 3),
        s -> s.settings(0, 0, 64, 1),
        s -> s.settings(1, 2, 64, 1),
        s -> s.settings(1, 0, 65, 1),
        s -> s.settings(1, 0, 64, 101),
        s -> s.workers(0),
        s -> s.workers(9),
        s -> s.step(0),
        s -> s.step(21),
        s -> s.of(9, 0),
        s -> s.of(0, 13),
        s -> s.about(9, 0),
        s -> s.about(0, 4),
        s -> s.ofRow(9, 0),
        s -> s.ofRow(0, 3),
        s -> s.count(7),
    };

    public static void main(String[] args) {
        String due = way(null, "");
        for (int i = 0; i < REFUSED.length; i++) {
            Check.same("the way behind refused call " + i, way(REFUSED[i], "call " + i), due);
        }
        fullWorldGoesOn();
        Check.end();
    }

    /** Everything is another than at first: kept impulses, rows, sleepers, pad, settings, workers. */
    private static IslandSolver world() {
        IslandSolver solver = Worlds.sleepers(3);
        solver.body(2, 1, 2, 3);
        Worlds.alongX(solver, 3, NONE, 7, 3);
        solver.step(1);
        solver.clear();
        Worlds.alongX(solver, 0, 1, 2, 4);
        solver.rub(0, 1, 3, 0, 0.5f, 5);
        solver.vector(0, 1, 2, 3);
        solver.vector(1, 0.5f, -1, 0.25f);
        solver.vector(2, -0.25f, 2, 1);
        solver.settings(3, 0.75f, 2, 4);
        solver.workers(5);
        return solver;
    }

    /** What a world answers from there on, with a refused call at its beginning (or none: null). */
    private static String way(Act refused, String name) {
        IslandSolver solver = world();
        if (refused != null) {
            String before = Worlds.picture(solver);
            boolean threw = false;
            try {
                refused.on(solver);
            } catch (RuntimeException e) {
                threw = Check.isThrownByTheClass(e);
            }
            Check.that(name + " is refused by the class itself", threw);
            Check.same("all that can be asked behind " + name, Worlds.picture(solver), before);
        }
        StringBuilder told = new StringBuilder();
        solver.row(3, 2, 1, 0, -100, 100, 3);
        solver.set(0, 1, 2, 3, 4, 5, 6);
        told.append(Worlds.picture(solver));
        for (int i = 0; i < 6; i++) {
            told.append(solver.step(1)).append(' ').append(Worlds.picture(solver));
        }
        told.append(solver.workers(1)).append(' ').append(solver.clear());
        solver.row(0, NONE, 0, 0, -100, 100, 4);
        solver.row(0, NONE, 0, 0, -100, 100, 3);
        told.append(Worlds.picture(solver));
        return told.toString();
    }

    /** The calls that a full world refuses leave what is kept and what stands alone, too. */
    private static void fullWorldGoesOn() {
        IslandSolver one = full();
        IslandSolver other = full();
        Check.state("body 257", one, () -> one.body(16, 16, 16, 16));
        Check.state("row 1025", one, () -> one.row(0, 1, 0, 0, -1, 1, 3));
        Check.state("row 1025 that rubs", one, () -> one.rub(0, 1, 0, 0, 1, 3));
        one.step(2);
        other.step(2);
        Check.same("a full world behind refused calls", Worlds.picture(one), Worlds.picture(other));
        Check.same("rows cleared", one.clear(), 1024);
        Check.same("the island of 1 by itself", one.about(1, 0), 1);
    }

    private static IslandSolver full() {
        IslandSolver solver = Worlds.points(256);
        solver.set(0, 3, 0, 0, 0, 0, 0);
        Worlds.alongX(solver, 0, 1, 0, 3);
        for (int i = 1; i < 1024; i++) {
            solver.row(i % 256, NONE, 1, 1, -2, 2, i);
        }
        return solver;
    }
}
