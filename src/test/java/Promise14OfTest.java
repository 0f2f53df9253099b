/** Promise 14: of. */
public final class Promise14OfTest {
    public static void main(String[] args) {
        IslandSolver solver = Worlds.points(1);
        solver.body(7, 8, 9, 10);
        solver.lean(1, 1.5f, 2.5f, -3.5f);
        solver.set(1, 11, 12, 13, 14, 15, 16);
        float[] due = {11, 12, 13, 14, 15, 16, 7, 8, 9, 10, 1.5f, 2.5f, -3.5f};
        for (int what = 0; what < 13; what++) {
            Check.same("of(1, " + what + ")", solver.of(1, what), due[what]);
        }
        Check.same("of(0, 6)", solver.of(0, 6), 1.0f);
        int[] wrong = {-1, 2, Integer.MIN_VALUE, Integer.MAX_VALUE};
        for (int body : wrong) {
            Check.index("of(" + body + ", 0)", solver, () -> solver.of(body, 0));
            Check.index("of(" + body + ", 13)", solver, () -> solver.of(body, 13));
        }
        for (int what : new int[] {-1, 13, Integer.MIN_VALUE, Integer.MAX_VALUE}) {
            Check.index("of(0, " + what + ")", solver, () -> solver.of(0, what));
        }
        Check.end();
    }
}
