/** The largest numbers that the document allows, all at once: no answer is NaN or infinite. */
public final class ExtremeNumbersTest {
    private static final int BODIES = 24;

    public static void main(String[] args) {
        IslandSolver solver = new IslandSolver();
        solver.settings(16, 1, 64, 1);
        for (int i = 0; i < BODIES; i++) {
            solver.body(16, 16, i % 2 == 0 ? 16 : 0, 16);
            solver.lean(i, sign(i) * 4, 4, sign(i / 2) * 4);
            solver.set(i, 1024, -1024, 1024, -1024, 1024, sign(i) * 1024);
        }
        int rows = 0;
        for (int i = 0; i < 180; i++) {
            int a = i % BODIES;
            int b = (i * 7 + 1) % BODIES == a ? IslandSolver.NONE : (i * 7 + 1) % BODIES;
            solver.vector(i % 3, sign(i) * 64, 64, sign(i / 2) * 64);
            solver.row(a, b, sign(i) * 1024, i % 5 == 0 ? 64 : 0, i % 4 == 0 ? 65536 : -65536, 65536, i);
            solver.rub(a, b, -1024, rows, 8, i);
            rows += 2;
        }
        for (int i = 0; i < 4; i++) {
            solver.gain(0, BODIES - 1, 64, 64, 64);
            solver.step(20);
            checkFinite(solver);
        }
        Check.end();
    }

    private static float sign(int i) {
        return i % 2 == 0 ? 1 : -1;
    }

    private static void checkFinite(IslandSolver solver) {
        String picture = Worlds.picture(solver);
        Check.that("no NaN in\n" + picture, !picture.contains("NaN"));
        Check.that("nothing infinite in\n" + picture, !picture.contains("Infinity"));
    }
}
