/** Many runs of calls, right and wrong ones, each answered by the class and by PlainModel, to the last bit. */
public final class RandomRunsTest {
    private static final int RUNS = 1500;

    private long seed;
    private IslandSolver solver;
    private PlainModel model;
    private final StringBuilder told = new StringBuilder();
    /** Of a hundred numbers, so many are wrong ones. */
    private int wrongs;
    private static long threw = 0;
    private static long slept = 0;
    private static long dead = 0;
    private static long rubbed = 0;

    interface Answer {
        String give();
    }

    public static void main(String[] args) {
        for (int run = 0; run < RUNS; run++) {
            new RandomRunsTest().go(run);
        }
        // A generator that never gets there would test nothing.
        Check.that("calls threw: " + threw, threw > 10000);
        Check.that("bodies slept: " + slept, slept > 2000);
        Check.that("rows were dead: " + dead, dead > 500);
        Check.that("rows rubbed: " + rubbed, rubbed > 2000);
        Check.end();
    }

    private void go(int run) {
        seed = run * 7919L + 17;
        solver = new IslandSolver();
        model = new PlainModel();
        wrongs = run % 3 == 0 ? 8 : 0;
        int calls = 0;
        int most = run % 10 == 0 ? 512 : 120;
        if (run % 2 == 0) {
            calls += begin();
        }
        for (; calls < most; calls++) {
            if (!call()) {
                Check.that("run " + run + " differs in its last call:\n" + told, false);
                return;
            }
        }
        slept += model.count(4);
        dead += model.count(6);
        Check.that("run " + run, true);
    }

    /** Most runs begin with some bodies, so that the calls behind it meet some. */
    private int begin() {
        int bodies = 2 + below(8);
        for (int i = 0; i < bodies; i++) {
            float w = below(5) == 0 ? 0 : fraction(16);
            float xx = below(3) == 0 ? 0 : fraction(16);
            solver.body(w, xx, xx, xx);
            model.body(w, xx, xx, xx);
        }
        if (below(2) == 0) {
            int still = below(4);
            int rounds = 1 + below(10);
            solver.settings(rounds, 0.75f, 64, still);
            model.settings(rounds, 0.75f, 64, still);
        }
        return bodies + 1;
    }

    private boolean call() {
        int kind = below(100);
        if (kind < 6) {
            return makeBody();
        } else if (kind < 10) {
            return lean();
        } else if (kind < 18) {
            return set();
        } else if (kind < 22) {
            return gain();
        } else if (kind < 24) {
            int body = body();
            return both("wake " + body, () -> "" + solver.wake(body), () -> "" + model.wake(body));
        } else if (kind < 36) {
            return vector();
        } else if (kind < 48) {
            return row();
        } else if (kind < 58) {
            return rub();
        } else if (kind < 60) {
            return both("clear", () -> "" + solver.clear(), () -> "" + model.clear());
        } else if (kind < 64) {
            return settings();
        } else if (kind < 66) {
            int n = whole(1, 8);
            return both("workers " + n, () -> "" + solver.workers(n), () -> "" + model.workers(n));
        } else if (kind < 78) {
            int n = below(4) == 0 ? whole(1, 20) : 1 + below(3);
            return both("step " + n, () -> "" + solver.step(n), () -> "" + model.step(n)) && allAlike();
        }
        return ask();
    }

    private boolean makeBody() {
        float w = below(4) == 0 ? 0 : number(0, 16);
        float xx = below(3) == 0 ? 0 : number(0, 16);
        float yy = below(3) == 0 ? 0 : number(0, 16);
        float zz = below(3) == 0 ? 0 : number(0, 16);
        return both("body " + w + " " + xx + " " + yy + " " + zz,
                () -> "" + solver.body(w, xx, yy, zz), () -> "" + model.body(w, xx, yy, zz));
    }

    private boolean lean() {
        int body = body();
        float x = number(-4, 4);
        float y = number(-4, 4);
        float z = number(-4, 4);
        return both("lean " + body + " " + x + " " + y + " " + z,
                () -> {
                    solver.lean(body, x, y, z);
                    return "";
                },
                () -> {
                    model.lean(body, x, y, z);
                    return "";
                });
    }

    private boolean set() {
        int body = body();
        float big = below(3) == 0 ? 1024 : below(2) == 0 ? 8 : 0.125f;
        float[] x = new float[6];
        for (int i = 0; i < 6; i++) {
            x[i] = below(4) == 0 ? 0 : big == 1024 ? number(-1024, 1024) : fraction(2 * big) - big;
        }
        return both("set " + body + " " + java.util.Arrays.toString(x),
                () -> {
                    solver.set(body, x[0], x[1], x[2], x[3], x[4], x[5]);
                    return "";
                },
                () -> {
                    model.set(body, x[0], x[1], x[2], x[3], x[4], x[5]);
                    return "";
                });
    }

    private boolean gain() {
        int from = body();
        int to = body();
        float x = below(2) == 0 ? 0 : number(-64, 64);
        float y = below(2) == 0 ? 0 : number(-64, 64);
        float z = below(2) == 0 ? 0 : number(-64, 64);
        return both("gain " + from + " " + to + " " + x + " " + y + " " + z,
                () -> "" + solver.gain(from, to, x, y, z), () -> "" + model.gain(from, to, x, y, z));
    }

    private boolean vector() {
        int which = whole(0, 2);
        boolean none = below(4) == 0;
        float x = none ? 0 : number(-64, 64);
        float y = none || below(2) == 0 ? 0 : number(-64, 64);
        float z = none || below(2) == 0 ? 0 : number(-64, 64);
        return both("vector " + which + " " + x + " " + y + " " + z,
                () -> {
                    solver.vector(which, x, y, z);
                    return "";
                },
                () -> {
                    model.vector(which, x, y, z);
                    return "";
                });
    }

    private boolean row() {
        int a = body();
        int b = below(5) == 0 ? -1 : body();
        float target = below(2) == 0 ? 0 : number(-1024, 1024);
        float soft = below(2) == 0 ? 0 : number(0, 64);
        float low = below(2) == 0 ? 0 : number(-65536, 65536);
        float high = below(2) == 0 ? 65536 : low < 0 ? 0 : number(-65536, 65536);
        int key = key();
        return both("row " + a + " " + b + " " + target + " " + soft + " " + low + " " + high + " " + key,
                () -> "" + solver.row(a, b, target, soft, low, high, key),
                () -> "" + model.row(a, b, target, soft, low, high, key));
    }

    private boolean rub() {
        int at = whole(0, Math.max(0, model.rows - 1));
        boolean known = at >= 0 && at < model.rows && below(8) > 0;
        int a = known ? model.a[at] : body();
        int b = known ? model.b[at] : body();
        float target = below(2) == 0 ? 0 : number(-1024, 1024);
        float friction = number(0, 8);
        int key = key();
        int before = model.rows;
        boolean alike = both("rub " + a + " " + b + " " + target + " " + at + " " + friction + " " + key,
                () -> "" + solver.rub(a, b, target, at, friction, key),
                () -> "" + model.rub(a, b, target, at, friction, key));
        rubbed += model.rows - before;
        return alike;
    }

    private boolean settings() {
        int rounds = whole(1, 16);
        float warm = number(0, 1);
        float calm = number(0, 64);
        int still = below(2) == 0 ? below(4) : whole(0, 100);
        return both("settings " + rounds + " " + warm + " " + calm + " " + still,
                () -> {
                    solver.settings(rounds, warm, calm, still);
                    return "";
                },
                () -> {
                    model.settings(rounds, warm, calm, still);
                    return "";
                });
    }

    private boolean ask() {
        int what;
        switch (below(5)) {
            case 0:
                what = whole(0, 12);
                return askOf(body(), what);
            case 1:
                what = whole(0, 3);
                return askAbout(body(), what);
            case 2:
                what = whole(0, 2);
                return askOfRow(whole(0, Math.max(0, model.rows - 1)), what);
            case 3:
                what = whole(0, 6);
                return askCount(what);
            default:
                return both("motion", () -> bits(solver.motion()), () -> bits(model.motion()));
        }
    }

    private boolean askOf(int body, int what) {
        return both("of " + body + " " + what, () -> bits(solver.of(body, what)), () -> bits(model.of(body, what)));
    }

    private boolean askAbout(int body, int what) {
        return both("about " + body + " " + what,
                () -> "" + solver.about(body, what), () -> "" + model.about(body, what));
    }

    private boolean askOfRow(int row, int what) {
        return both("ofRow " + row + " " + what,
                () -> bits(solver.ofRow(row, what)), () -> bits(model.ofRow(row, what)));
    }

    private boolean askCount(int what) {
        return both("count " + what, () -> "" + solver.count(what), () -> "" + model.count(what));
    }

    /** Everything that can be asked behind a step. */
    private boolean allAlike() {
        boolean alike = true;
        for (int body = 0; body < model.bodies; body++) {
            for (int what = 0; what < 13; what++) {
                alike = alike && askOf(body, what);
            }
            for (int what = 0; what < 4; what++) {
                alike = alike && askAbout(body, what);
            }
        }
        for (int row = 0; row < model.rows; row++) {
            for (int what = 0; what < 3; what++) {
                alike = alike && askOfRow(row, what);
            }
        }
        for (int what = 0; what < 7; what++) {
            alike = alike && askCount(what);
        }
        return alike;
    }

    private boolean both(String call, Answer got, Answer due) {
        String answer = answer(got);
        String wanted = answer(due);
        boolean question = call.startsWith("of") || call.startsWith("about") || call.startsWith("count");
        if (!question || !answer.equals(wanted)) {
            told.append(call).append(" answered ").append(answer).append(", due is ").append(wanted).append('\n');
        }
        return answer.equals(wanted);
    }

    private static String answer(Answer asked) {
        try {
            return asked.give();
        } catch (RuntimeException e) {
            threw++;
            boolean byThrow = Check.isThrownByTheClass(e) || Check.isThrownIn("PlainModel", e);
            return byThrow ? e.getClass().getName() : "the machine's " + e;
        }
    }

    private static String bits(float x) {
        return x + "/" + Integer.toHexString(Float.floatToIntBits(x));
    }

    private int below(int bound) {
        seed = seed * 6364136223846793005L + 1442695040888963407L;
        return (int) ((seed >>> 33) % bound);
    }

    private float fraction(float most) {
        return most * below(4097) / 4096;
    }

    private int body() {
        return whole(0, Math.max(0, model.bodies - 1));
    }

    private int key() {
        return below(8) == 0 ? -1 - below(2) : below(10);
    }

    private int whole(int low, int high) {
        if (below(100) < wrongs) {
            int[] wrong = {low - 1, high + 1, Integer.MIN_VALUE, Integer.MAX_VALUE, -1, -2};
            return wrong[below(wrong.length)];
        }
        return low + below(high - low + 1);
    }

    private float number(float low, float high) {
        if (below(100) < wrongs) {
            float[] wrong = Worlds.outside(low, high);
            return wrong[below(wrong.length)];
        }
        switch (below(8)) {
            case 0:
                return below(2) == 0 ? low : high;
            case 1:
                return below(2) == 0 ? 0 : -0.0f * (below(2) == 0 ? 1 : low);
            case 2:
                return high * below(65) / 64 / (1 << below(20));
            default:
                return low + (high - low) * below(1 << 20) / (1 << 20);
        }
    }
}
