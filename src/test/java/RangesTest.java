/**
 * Each range of numbers that the document names: the last number that is taken and the first that
 * is refused on each side, in each place of each call, and what becomes of a number that is taken.
 * Whole numbers are in PlacesTest.
 */
public final class RangesTest {
    private static final int NONE = IslandSolver.NONE;

    /** A call with one number to be tried, all else in it being right. */
    interface Trial {
        void with(IslandSolver solver, float x);
    }

    /** Where a number that was taken is to be read. */
    interface Reading {
        float of(IslandSolver solver);
    }

    public static void main(String[] args) {
        ofBody();
        ofLean();
        ofSet();
        ofGain();
        ofVector();
        ofRow();
        ofLimits();
        ofRub();
        ofSettings();
        Check.end();
    }

    /**
     * Three bodies: 0 is awake, 1 asleep, 2 not movable; a row of 0 and 1 that presses along y with
     * just 1; and x as N of the pad.
     */
    private static IslandSolver world() {
        IslandSolver solver = Worlds.sleepers(2);
        solver.wake(0);
        solver.body(0, 0, 0, 0);
        solver.vector(0, 0, 1, 0);
        solver.row(0, 1, 0, 0, 1, 1, 1);
        solver.vector(0, 1, 0, 0);
        return solver;
    }

    /** One step of one round, in which all bodies are awake. */
    private static IslandSolver stepped(IslandSolver solver) {
        solver.settings(1, 1, 0, 0);
        solver.step(1);
        return solver;
    }

    private static void range(String name, float low, float high, Trial call, Reading reading) {
        for (float x : new float[] {low, Worlds.above(low), (low + high) / 2, Worlds.below(high), high}) {
            IslandSolver solver = world();
            Check.taken(name + " " + x, () -> call.with(solver, x));
            if (reading != null) {
                Check.same(name + " " + x + ", read again", reading.of(solver), x);
            }
        }
        for (float x : Worlds.outside(low, high)) {
            IslandSolver solver = world();
            Check.argument(name + " " + x, solver, () -> call.with(solver, x));
        }
    }

    private static void ofBody() {
        range("w", 0, 16, (s, x) -> s.body(x, 1, 1, 1), s -> s.of(3, 6));
        range("xx", 0, 16, (s, x) -> s.body(1, x, 1, 1), s -> s.of(3, 7));
        range("yy", 0, 16, (s, x) -> s.body(1, 1, x, 1), s -> s.of(3, 8));
        range("zz", 0, 16, (s, x) -> s.body(1, 1, 1, x), s -> s.of(3, 9));
    }

    private static void ofLean() {
        range("xy", -4, 4, (s, x) -> s.lean(1, x, 0, 0), s -> s.of(1, 10));
        range("yz", -4, 4, (s, x) -> s.lean(1, 0, x, 0), s -> s.of(1, 11));
        range("zx", -4, 4, (s, x) -> s.lean(1, 0, 0, x), s -> s.of(1, 12));
    }

    private static void ofSet() {
        for (int i = 0; i < 6; i++) {
            int place = i;
            range("set, place " + place, -1024, 1024, (s, x) -> {
                float[] p = new float[6];
                p[place] = x;
                s.set(1, p[0], p[1], p[2], p[3], p[4], p[5]);
            }, s -> s.of(1, place));
        }
    }

    private static void ofGain() {
        range("gain x", -64, 64, (s, x) -> s.gain(0, 1, x, 0, 0), s -> s.of(1, 0));
        range("gain y", -64, 64, (s, x) -> s.gain(0, 1, 0, x, 0), s -> s.of(1, 1));
        range("gain z", -64, 64, (s, x) -> s.gain(0, 1, 0, 0, x), s -> s.of(1, 2));
    }

    private static void ofVector() {
        for (int i = 0; i < 3; i++) {
            int which = i;
            range("vector " + which + " x", -64, 64, (s, x) -> s.vector(which, x, 0, 0), s -> inPad(s, which, 0));
            range("vector " + which + " y", -64, 64, (s, x) -> s.vector(which, 0, x, 0), s -> inPad(s, which, 1));
            range("vector " + which + " z", -64, 64, (s, x) -> s.vector(which, 0, 0, x), s -> inPad(s, which, 2));
        }
    }

    /** A coordinate of the pad: what a row's speed is if one body alone moves, by 1 along it. */
    private static float inPad(IslandSolver solver, int which, int coordinate) {
        float[] p = new float[6];
        // Q counts what b does, and that is taken away.
        p[which == 0 ? coordinate : 3 + coordinate] = which == 2 ? -1 : 1;
        solver.set(which == 2 ? 1 : 0, p[0], p[1], p[2], p[3], p[4], p[5]);
        return solver.ofRow(solver.row(0, 1, 0, 0, 0, 0, NONE), 1);
    }

    private static void ofRow() {
        range("target", -1024, 1024, (s, x) -> s.row(1, NONE, x, 0, -65536, 65536, 0), s -> stepped(s).of(1, 0));
        // Of one that is not movable the stiffness is the softness alone.
        range("soft", 0, 64, (s, x) -> s.row(2, NONE, 0, x, 0, 0, 0), s -> s.ofRow(1, 2));
    }

    private static void ofLimits() {
        range("low", -65536, 65536, (s, x) -> s.row(1, NONE, 0, 0, x, 65536, 0), null);
        range("high", -65536, 65536, (s, x) -> s.row(1, NONE, 0, 0, -65536, x, 0), null);
        range("low and high", -65536, 65536, (s, x) -> s.row(1, NONE, 0, 0, x, x, 0), s -> stepped(s).ofRow(1, 0));
        for (float x : new float[] {-65536, -1, 0, 1, Worlds.below(65536)}) {
            IslandSolver solver = world();
            Check.argument("low just above high " + x, solver,
                    () -> solver.row(0, 1, 0, 0, Worlds.above(x), x, 0));
            Check.taken("high just above low " + x, () -> solver.row(0, 1, 0, 0, x, Worlds.above(x), 0));
        }
        IslandSolver solver = world();
        Check.argument("low is the highest, high the lowest", solver, () -> solver.row(0, 1, 0, 0, 65536, -65536, 0));
    }

    /** Where row 0 presses with 1, a row that wants more than its friction has just that. */
    private static void ofRub() {
        range("target of rub", -1024, 1024, (s, x) -> s.rub(0, 1, x, 0, 1, 0), null);
        range("friction", 0, 8, (s, x) -> s.rub(0, 1, 1024, 0, x, 0), s -> stepped(s).ofRow(1, 0));
    }

    private static void ofSettings() {
        range("warm", 0, 1, (s, x) -> s.settings(8, x, 1, 0), null);
        range("calm", 0, 64, (s, x) -> s.settings(8, 1, x, 0), null);
    }
}
