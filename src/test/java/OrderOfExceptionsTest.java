/** Calls that are wrong in several ways: IndexOutOfBounds before IllegalArgument before IllegalState. */
public final class OrderOfExceptionsTest {
    private static final int NONE = IslandSolver.NONE;

    public static void main(String[] args) {
        indexBeforeArgument();
        anyIndexBeforeAnyArgument();
        argumentBeforeStateOfBodies();
        allThreeOfRows();
        Check.end();
    }

    private static void indexBeforeArgument() {
        IslandSolver solver = Worlds.sleepers(2);
        float bad = Float.NaN;
        Check.index("lean", solver, () -> solver.lean(2, bad, bad, bad));
        Check.argument("lean of a body that there is", solver, () -> solver.lean(1, bad, bad, bad));
        Check.index("set", solver, () -> solver.set(-1, bad, bad, bad, bad, bad, bad));
        Check.argument("set of a body that there is", solver, () -> solver.set(0, bad, bad, bad, bad, bad, bad));
        Check.index("gain from no body", solver, () -> solver.gain(-1, 1, bad, bad, bad));
        Check.index("gain to no body", solver, () -> solver.gain(0, 2, bad, bad, bad));
        Check.index("gain, from above to", solver, () -> solver.gain(1, 0, bad, bad, bad));
        Check.argument("gain of bodies that there are", solver, () -> solver.gain(0, 1, bad, bad, bad));
        Check.index("vector", solver, () -> solver.vector(3, bad, bad, bad));
        Check.argument("vector of the pad", solver, () -> solver.vector(2, bad, bad, bad));
        Check.index("of, both wrong", solver, () -> solver.of(2, 13));
        Check.index("about, both wrong", solver, () -> solver.about(2, 4));
        Check.index("ofRow, both wrong", solver, () -> solver.ofRow(0, 3));
    }

    /** In rub() the row stands behind the target, but its index counts first all the same. */
    private static void anyIndexBeforeAnyArgument() {
        IslandSolver solver = Worlds.points(3);
        Worlds.alongX(solver, 0, 1, 0, 0);
        solver.rub(0, 1, 0, 0, 1, 0);
        Check.index("row of no a", solver, () -> solver.row(3, 1, 9999, -1, 1, 0, 0));
        Check.index("row of no b", solver, () -> solver.row(0, 3, 9999, -1, 1, 0, 0));
        Check.index("row of a and a", solver, () -> solver.row(1, 1, 9999, -1, 1, 0, 0));
        Check.index("rub at no row, with a wrong target", solver, () -> solver.rub(0, 1, 9999, 2, 1, 0));
        Check.index("rub at no row, with a wrong friction", solver, () -> solver.rub(0, 1, 0, 2, 9, 0));
        Check.index("rub at no row, of other bodies", solver, () -> solver.rub(0, 2, 0, 2, 1, 0));
        Check.index("rub of no b at a row that rubs", solver, () -> solver.rub(0, 3, 0, 1, 1, 0));
        Check.index("rub of a and a at a row that rubs", solver, () -> solver.rub(0, 0, 0, 1, 1, 0));
        Check.argument("rub with all else wrong", solver, () -> solver.rub(2, NONE, 9999, 1, 9, 0));
    }

    private static void argumentBeforeStateOfBodies() {
        IslandSolver solver = Worlds.points(256);
        Check.state("a right body", solver, () -> solver.body(1, 1, 1, 1));
        Check.argument("w", solver, () -> solver.body(17, 1, 1, 1));
        Check.argument("xx", solver, () -> solver.body(1, 17, 1, 1));
        Check.argument("yy", solver, () -> solver.body(1, 1, -1, 1));
        Check.argument("zz", solver, () -> solver.body(1, 1, 1, Float.NaN));
    }

    private static void allThreeOfRows() {
        IslandSolver solver = Worlds.points(3);
        Worlds.alongX(solver, 0, 1, 0, 0);
        solver.rub(0, 1, 0, 0, 1, 1);
        for (int i = 2; i < 1024; i++) {
            solver.row(0, 1, 0, 0, 0, 0, i);
        }
        Check.state("a right row", solver, () -> solver.row(0, 1, 0, 0, 0, 0, 0));
        Check.argument("target", solver, () -> solver.row(0, 1, 1025, 0, 0, 0, 0));
        Check.argument("soft", solver, () -> solver.row(0, 1, 0, 65, 0, 0, 0));
        Check.argument("low", solver, () -> solver.row(0, 1, 0, 0, -65537, 0, 0));
        Check.argument("high", solver, () -> solver.row(0, 1, 0, 0, 0, 65537, 0));
        Check.argument("low above high", solver, () -> solver.row(0, 1, 0, 0, 1, 0, 0));
        Check.index("no body", solver, () -> solver.row(0, 3, 1025, 0, 0, 0, 0));
        Check.state("a right rub", solver, () -> solver.rub(0, 1, 0, 0, 1, 0));
        Check.argument("target of rub", solver, () -> solver.rub(0, 1, 1025, 0, 1, 0));
        Check.argument("friction", solver, () -> solver.rub(0, 1, 0, 0, 9, 0));
        Check.argument("at a row that rubs", solver, () -> solver.rub(0, 1, 0, 1, 1, 0));
        Check.argument("of other bodies", solver, () -> solver.rub(0, 2, 0, 0, 1, 0));
        Check.index("at no row", solver, () -> solver.rub(0, 1, 1025, 1024, 9, 0));
        Check.index("of no body", solver, () -> solver.rub(3, 1, 1025, 0, 9, 0));
    }
}
