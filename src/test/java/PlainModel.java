/**
 * The document once more, in another form, to compare the class with: no workers, no chains,
 * everything counted anew each time, rows solved in the order of the whole world.
 */
final class PlainModel {
    static final int NONE = -1;

    int bodies;
    final float[][] v = new float[256][3];
    final float[][] s = new float[256][3];
    final float[][] mass = new float[256][7]; // W, xx, yy, zz, xy, yz, zx
    final boolean[] asleep = new boolean[256];
    final int[] quiet = new int[256];

    int rows;
    final int[] a = new int[1024];
    final int[] b = new int[1024];
    final int[] key = new int[1024];
    final int[] at = new int[1024];
    final float[][][] axes = new float[1024][3][3];
    final float[] target = new float[1024];
    final float[] soft = new float[1024];
    final float[] low = new float[1024];
    final float[] high = new float[1024];
    final float[] friction = new float[1024];
    final float[] impulse = new float[1024];

    java.util.Map<Integer, Float> kept = new java.util.HashMap<>();
    final float[][] pad = new float[3][3];
    int rounds = 8;
    float warm = 1;
    float calm = 0.0625f;
    int still = 0;
    int workers = 1;
    int steps = 0;

    private static boolean in(double x, double low, double high) {
        return x >= low && x <= high;
    }

    private static void index(boolean holds) {
        if (!holds) {
            throw new IndexOutOfBoundsException();
        }
    }

    private static void argument(boolean holds) {
        if (!holds) {
            throw new IllegalArgumentException();
        }
    }

    private static void state(boolean holds) {
        if (!holds) {
            throw new IllegalStateException();
        }
    }

    int body(float w, float xx, float yy, float zz) {
        argument(in(w, 0, 16) && in(xx, 0, 16) && in(yy, 0, 16) && in(zz, 0, 16));
        state(bodies < 256);
        mass[bodies] = new float[] {w, xx, yy, zz, 0, 0, 0};
        return bodies++;
    }

    void lean(int body, float xy, float yz, float zx) {
        index(body >= 0 && body < bodies);
        argument(in(xy, -4, 4) && in(yz, -4, 4) && in(zx, -4, 4));
        mass[body][4] = xy;
        mass[body][5] = yz;
        mass[body][6] = zx;
        wakeUp(body);
    }

    void set(int body, float vx, float vy, float vz, float sx, float sy, float sz) {
        index(body >= 0 && body < bodies);
        for (float x : new float[] {vx, vy, vz, sx, sy, sz}) {
            argument(in(x, -1024, 1024));
        }
        v[body] = new float[] {vx, vy, vz};
        s[body] = new float[] {sx, sy, sz};
        wakeUp(body);
    }

    int gain(int from, int to, float x, float y, float z) {
        index(from >= 0 && from <= to && to < bodies);
        argument(in(x, -64, 64) && in(y, -64, 64) && in(z, -64, 64));
        int many = 0;
        for (int i = from; i <= to; i++) {
            if (movable(i)) {
                v[i][0] += x;
                v[i][1] += y;
                v[i][2] += z;
                wakeUp(i);
                many++;
            }
        }
        return many;
    }

    boolean wake(int body) {
        index(body >= 0 && body < bodies);
        boolean was = asleep[body];
        wakeUp(body);
        return was;
    }

    private void wakeUp(int body) {
        asleep[body] = false;
        quiet[body] = 0;
    }

    void vector(int which, float x, float y, float z) {
        index(which >= 0 && which < 3);
        argument(in(x, -64, 64) && in(y, -64, 64) && in(z, -64, 64));
        pad[which] = new float[] {x, y, z};
    }

    int row(int ra, int rb, float t, float so, float lo, float hi, int k) {
        pair(ra, rb);
        argument(in(t, -1024, 1024) && in(so, 0, 64) && in(lo, -65536, 65536) && in(hi, -65536, 65536) && lo <= hi);
        state(rows < 1024);
        at[rows] = NONE;
        soft[rows] = so;
        low[rows] = lo;
        high[rows] = hi;
        return add(ra, rb, t, k);
    }

    int rub(int ra, int rb, float t, int rat, float f, int k) {
        pair(ra, rb);
        index(rat >= 0 && rat < rows);
        argument(in(t, -1024, 1024) && in(f, 0, 8) && at[rat] == NONE && a[rat] == ra && b[rat] == rb);
        state(rows < 1024);
        at[rows] = rat;
        soft[rows] = 0;
        friction[rows] = f;
        return add(ra, rb, t, k);
    }

    private void pair(int ra, int rb) {
        index(ra >= 0 && ra < bodies && rb >= NONE && rb < bodies && ra != rb);
    }

    private int add(int ra, int rb, float t, int k) {
        a[rows] = ra;
        b[rows] = rb;
        target[rows] = t;
        key[rows] = k;
        for (int i = 0; i < 3; i++) {
            axes[rows][i] = pad[i].clone();
        }
        impulse[rows] = k >= 0 && kept.containsKey(k) ? limited(rows, kept.get(k)) : 0;
        return rows++;
    }

    int clear() {
        kept = new java.util.HashMap<>();
        for (int r = 0; r < rows; r++) {
            kept.putIfAbsent(key[r], impulse[r]);
        }
        int gone = rows;
        rows = 0;
        return gone;
    }

    void settings(int r, float w, float c, int st) {
        argument(in(r, 1, 16) && in(w, 0, 1) && in(c, 0, 64) && in(st, 0, 100));
        rounds = r;
        warm = w;
        calm = c;
        still = st;
    }

    int workers(int n) {
        argument(in(n, 1, 8));
        int was = workers;
        workers = n;
        return was;
    }

    int step(int n) {
        argument(in(n, 1, 20));
        for (int i = 0; i < n; i++) {
            oneStep();
        }
        return count(2) - count(3);
    }

    private void oneStep() {
        int[] island = islands();
        boolean[] active = new boolean[bodies];
        for (int i = 0; i < bodies; i++) {
            active[i] = movable(i) && !sleeps(island, island[i]);
        }
        for (int i = 0; i < bodies; i++) {
            if (active[i] && asleep[i]) {
                wakeUp(i);
            }
        }
        for (int r = 0; r < rows; r++) {
            if (active[a[r]] || (b[r] != NONE && active[b[r]])) {
                impulse[r] = dead(r) ? 0 : limited(r, impulse[r] * warm);
                if (!dead(r)) {
                    apply(r, impulse[r]);
                }
            }
        }
        for (int k = 0; k < rounds; k++) {
            for (int r = 0; r < rows; r++) {
                if ((active[a[r]] || (b[r] != NONE && active[b[r]])) && !dead(r)) {
                    float i = impulse[r] + (target[r] - speed(r) - soft[r] * impulse[r]) / stiffness(r);
                    i = limited(r, i);
                    float d = i - impulse[r];
                    impulse[r] = i;
                    apply(r, d);
                }
            }
        }
        for (int i = 0; i < bodies; i++) {
            if (active[i]) {
                for (int c = 0; c < 3; c++) {
                    v[i][c] = held(v[i][c], -4096, 4096);
                    s[i][c] = held(s[i][c], -4096, 4096);
                }
                float e = dot(v[i], v[i]) + dot(s[i], s[i]);
                quiet[i] = e < calm ? quiet[i] + 1 : 0;
            }
        }
        for (int i = 0; i < bodies; i++) {
            boolean all = active[i] && still > 0;
            for (int j = 0; j < bodies; j++) {
                all = all && (island[j] != island[i] || quiet[j] >= still);
            }
            if (all) {
                asleep[i] = true;
                v[i] = new float[3];
                s[i] = new float[3];
            }
        }
        steps++;
    }

    float of(int body, int what) {
        index(body >= 0 && body < bodies && what >= 0 && what < 13);
        return what < 3 ? v[body][what] : what < 6 ? s[body][what - 3] : mass[body][what - 6];
    }

    int about(int body, int what) {
        index(body >= 0 && body < bodies && what >= 0 && what < 4);
        if (what == 0) {
            return islands()[body];
        }
        if (what == 1) {
            return asleep[body] ? 1 : 0;
        }
        if (what == 2) {
            return quiet[body];
        }
        int in = 0;
        for (int r = 0; r < rows; r++) {
            in += a[r] == body || b[r] == body ? 1 : 0;
        }
        return in;
    }

    float ofRow(int row, int what) {
        index(row >= 0 && row < rows && what >= 0 && what < 3);
        return what == 0 ? impulse[row] : what == 1 ? speed(row) : stiffness(row);
    }

    int count(int what) {
        index(what >= 0 && what < 7);
        int[] island = islands();
        int islands = 0;
        int sleeping = 0;
        int sleepers = 0;
        int deads = 0;
        for (int i = 0; i < bodies; i++) {
            islands = Math.max(islands, island[i] + 1);
            sleepers += asleep[i] ? 1 : 0;
        }
        for (int k = 0; k < islands; k++) {
            sleeping += sleeps(island, k) ? 1 : 0;
        }
        for (int r = 0; r < rows; r++) {
            deads += dead(r) ? 1 : 0;
        }
        return new int[] {bodies, rows, islands, sleeping, sleepers, steps, deads}[what];
    }

    float motion() {
        float sum = 0;
        for (int i = 0; i < bodies; i++) {
            if (movable(i)) {
                sum += dot(v[i], v[i]) + dot(s[i], s[i]);
            }
        }
        return sum;
    }

    private boolean movable(int i) {
        return i != NONE && (mass[i][0] > 0 || mass[i][1] + mass[i][2] + mass[i][3] > 0);
    }

    /** By spreading from body to body along the rows, until nothing more is reached. */
    private int[] islands() {
        int[] island = new int[bodies];
        java.util.Arrays.fill(island, NONE);
        int next = 0;
        for (int i = 0; i < bodies; i++) {
            if (movable(i) && island[i] == NONE) {
                island[i] = next++;
                boolean more = true;
                while (more) {
                    more = false;
                    for (int r = 0; r < rows; r++) {
                        if (movable(a[r]) && movable(b[r]) && island[a[r]] != island[b[r]]) {
                            int reached = Math.max(island[a[r]], island[b[r]]);
                            if (reached == island[i]) {
                                island[a[r]] = reached;
                                island[b[r]] = reached;
                                more = true;
                            }
                        }
                    }
                }
            }
        }
        return island;
    }

    private boolean sleeps(int[] island, int k) {
        for (int i = 0; i < bodies; i++) {
            if (island[i] == k && !asleep[i]) {
                return false;
            }
        }
        return true;
    }

    private static float dot(float[] p, float[] q) {
        return p[0] * q[0] + p[1] * q[1] + p[2] * q[2];
    }

    private static float held(float x, float low, float high) {
        if (x < low) {
            return low;
        } else if (x > high) {
            return high;
        }
        return x;
    }

    private float limited(int r, float x) {
        if (at[r] == NONE) {
            return held(x, low[r], high[r]);
        }
        float h = friction[r] * impulse[at[r]];
        h = h < 0 ? 0 : h;
        return held(x, 0.0f - h, h);
    }

    private float speed(int r) {
        float[][] x = axes[r];
        float first = b[r] == NONE ? 0 : dot(x[0], v[b[r]]);
        float second = b[r] == NONE ? 0 : dot(x[2], s[b[r]]);
        return dot(x[0], v[a[r]]) + dot(x[1], s[a[r]]) - first - second;
    }

    private float w(int i) {
        return movable(i) ? mass[i][0] : 0;
    }

    private float[] turned(int i, float[] p) {
        float[] m = movable(i) ? mass[i] : new float[7];
        return new float[] {
            m[1] * p[0] + m[4] * p[1] + m[6] * p[2],
            m[4] * p[0] + m[2] * p[1] + m[5] * p[2],
            m[6] * p[0] + m[5] * p[1] + m[3] * p[2]
        };
    }

    private float stiffness(int r) {
        float[] n = axes[r][0];
        float[] p = axes[r][1];
        float[] q = axes[r][2];
        return w(a[r]) * dot(n, n) + dot(p, turned(a[r], p)) + w(b[r]) * dot(n, n) + dot(q, turned(b[r], q)) + soft[r];
    }

    private boolean dead(int r) {
        return stiffness(r) < 0.00000095367431640625f || (!movable(a[r]) && !movable(b[r]));
    }

    private void apply(int r, float d) {
        for (int side = 0; side < 2; side++) {
            int i = side == 0 ? a[r] : b[r];
            if (movable(i)) {
                float[] t = turned(i, axes[r][1 + side]);
                float f = mass[i][0] * d;
                for (int c = 0; c < 3; c++) {
                    float dv = axes[r][0][c] * f;
                    float ds = t[c] * d;
                    v[i][c] = side == 0 ? v[i][c] + dv : v[i][c] - dv;
                    s[i][c] = side == 0 ? s[i][c] + ds : s[i][c] - ds;
                }
            }
        }
    }
}
