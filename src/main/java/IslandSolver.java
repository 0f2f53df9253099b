import java.util.ArrayList;

/** Solves the constraints of a world of rigid bodies by impulses, island by island. */
public final class IslandSolver {
    public static final int NONE = -1;

    private static final int MOST_BODIES = 256;
    private static final int MOST_ROWS = 1024;
    private static final int MOST_WORKERS = 8;
    private static final int MOST_STEPS = 20;
    private static final int MOST_ROUNDS = 16;
    private static final int MOST_STILL = 100;

    private final ArrayList<Body> bodies = new ArrayList<>();
    private ArrayList<Row> rows = new ArrayList<>();
    private ArrayList<Row> kept = new ArrayList<>();
    private final Vec padN = new Vec();
    private final Vec padP = new Vec();
    private final Vec padQ = new Vec();
    private int rounds = 8;
    private float warm = 1.0f;
    private float calm = 0.0625f;
    private int still = 0;
    private int workerCount = 1;
    private int steps = 0;
    private int islandCount = 0;
    /** By island: its worker, or NONE while it sleeps. */
    private final int[] workerOf = new int[MOST_BODIES];
    /** By island: whether a body in it has not been quiet for long enough. */
    private final boolean[] restless = new boolean[MOST_BODIES];
    /** By worker: the first of its rows, which are chained in their order. */
    private final Row[] firstRow = new Row[MOST_WORKERS];

    public IslandSolver() {
    }

    public int body(float w, float xx, float yy, float zz)
            throws IllegalArgumentException, IllegalStateException {
        if (outside(w, 0, 16) || outside(xx, 0, 16) || outside(yy, 0, 16) || outside(zz, 0, 16)) {
            throw new IllegalArgumentException("inverse mass or inertia is not 0 .. 16");
        }
        if (bodies.size() >= MOST_BODIES) {
            throw new IllegalStateException("there are 256 bodies");
        }
        int number = bodies.size();
        bodies.add(new Body(number, w, xx, yy, zz));
        return number;
    }

    public void lean(int body, float xy, float yz, float zx)
            throws IndexOutOfBoundsException, IllegalArgumentException {
        Body leaning = bodyAt(body);
        if (outside(xy, -4, 4) || outside(yz, -4, 4) || outside(zx, -4, 4)) {
            throw new IllegalArgumentException("xy, yz or zx is not -4 .. 4");
        }
        leaning.xy = xy;
        leaning.yz = yz;
        leaning.zx = zx;
        leaning.rouse();
    }

    public void set(int body, float vx, float vy, float vz, float sx, float sy, float sz)
            throws IndexOutOfBoundsException, IllegalArgumentException {
        Body moved = bodyAt(body);
        if (anyOutside(vx, vy, vz, 1024) || anyOutside(sx, sy, sz, 1024)) {
            throw new IllegalArgumentException("velocity or spin is not -1024 .. 1024");
        }
        moved.v.put(vx, vy, vz);
        moved.s.put(sx, sy, sz);
        moved.rouse();
    }

    public int gain(int from, int to, float x, float y, float z)
            throws IndexOutOfBoundsException, IllegalArgumentException {
        if (!isBody(from) || !isBody(to) || from > to) {
            throw new IndexOutOfBoundsException("there are no such bodies");
        }
        if (anyOutside(x, y, z, 64)) {
            throw new IllegalArgumentException("x, y or z is not -64 .. 64");
        }
        int gained = 0;
        for (int i = from; i <= to; i++) {
            Body body = bodies.get(i);
            if (body.movable) {
                body.v.put(body.v.x + x, body.v.y + y, body.v.z + z);
                body.rouse();
                gained++;
            }
        }
        return gained;
    }

    public boolean wake(int body) throws IndexOutOfBoundsException {
        Body woken = bodyAt(body);
        boolean slept = woken.asleep;
        woken.rouse();
        return slept;
    }

    public void vector(int which, float x, float y, float z)
            throws IndexOutOfBoundsException, IllegalArgumentException {
        if (which < 0 || which > 2) {
            throw new IndexOutOfBoundsException("the pad has no such vector");
        }
        if (anyOutside(x, y, z, 64)) {
            throw new IllegalArgumentException("x, y or z is not -64 .. 64");
        }
        Vec changed = which == 0 ? padN : which == 1 ? padP : padQ;
        changed.put(x, y, z);
    }

    public int row(int a, int b, float target, float soft, float low, float high, int key)
            throws IndexOutOfBoundsException, IllegalArgumentException, IllegalStateException {
        checkPair(a, b);
        if (outside(target, -1024, 1024) || outside(soft, 0, 64)
                || outside(low, -65536, 65536) || outside(high, -65536, 65536) || low > high) {
            throw new IllegalArgumentException("target, softness or limits are out of range");
        }
        checkRoomForRow();
        Row made = newRow(a, b, target, key);
        made.soft = soft;
        made.low = low;
        made.high = high;
        return addRow(made);
    }

    public int rub(int a, int b, float target, int at, float friction, int key)
            throws IndexOutOfBoundsException, IllegalArgumentException, IllegalStateException {
        checkPair(a, b);
        Row pressing = rowAt(at);
        if (outside(target, -1024, 1024) || outside(friction, 0, 8)) {
            throw new IllegalArgumentException("target or friction is out of range");
        }
        if (pressing.at != null || pressing.a != bodyAt(a) || pressing.b != otherBody(b)) {
            throw new IllegalArgumentException("the row rubs itself or is of other bodies");
        }
        checkRoomForRow();
        Row made = newRow(a, b, target, key);
        made.at = pressing;
        made.friction = friction;
        return addRow(made);
    }

    public int clear() {
        int gone = rows.size();
        ArrayList<Row> emptied = kept;
        emptied.clear();
        kept = rows;
        rows = emptied;
        for (int i = 0; i < bodies.size(); i++) {
            bodies.get(i).leaveRows();
        }
        return gone;
    }

    public void settings(int rounds, float warm, float calm, int still)
            throws IllegalArgumentException {
        if (rounds < 1 || rounds > MOST_ROUNDS || outside(warm, 0, 1) || outside(calm, 0, 64)
                || still < 0 || still > MOST_STILL) {
            throw new IllegalArgumentException("a setting is out of range");
        }
        this.rounds = rounds;
        this.warm = warm;
        this.calm = calm;
        this.still = still;
    }

    public int workers(int n) throws IllegalArgumentException {
        if (n < 1 || n > MOST_WORKERS) {
            throw new IllegalArgumentException("n is not 1 .. 8");
        }
        int before = workerCount;
        workerCount = n;
        return before;
    }

    public int step(int n) throws IllegalArgumentException {
        if (n < 1 || n > MOST_STEPS) {
            throw new IllegalArgumentException("n is not 1 .. 20");
        }
        // What these hang on is changed by no step, so that once is enough.
        numberIslands();
        measureRows();
        for (int i = 0; i < n; i++) {
            stepOnce();
        }
        markAwake();
        return awakeIslands();
    }

    public float of(int body, int what) throws IndexOutOfBoundsException {
        Body asked = bodyAt(body);
        switch (what) {
            case 0: return asked.v.x;
            case 1: return asked.v.y;
            case 2: return asked.v.z;
            case 3: return asked.s.x;
            case 4: return asked.s.y;
            case 5: return asked.s.z;
            case 6: return asked.w;
            case 7: return asked.xx;
            case 8: return asked.yy;
            case 9: return asked.zz;
            case 10: return asked.xy;
            case 11: return asked.yz;
            case 12: return asked.zx;
            default: throw new IndexOutOfBoundsException("what is not 0 .. 12");
        }
    }

    public int about(int body, int what) throws IndexOutOfBoundsException {
        Body asked = bodyAt(body);
        switch (what) {
            case 0:
                numberIslands();
                return asked.island;
            case 1: return asked.asleep ? 1 : 0;
            case 2: return asked.quiet;
            case 3: return asked.rowCount;
            default: throw new IndexOutOfBoundsException("what is not 0 .. 3");
        }
    }

    public float ofRow(int row, int what) throws IndexOutOfBoundsException {
        Row asked = rowAt(row);
        switch (what) {
            case 0: return asked.impulse;
            case 1: return asked.speed();
            case 2:
                asked.measure();
                return asked.stiffness;
            default: throw new IndexOutOfBoundsException("what is not 0 .. 2");
        }
    }

    public int count(int what) throws IndexOutOfBoundsException {
        switch (what) {
            case 0: return bodies.size();
            case 1: return rows.size();
            case 2:
                numberIslands();
                return islandCount;
            case 3:
                numberIslands();
                markAwake();
                return islandCount - awakeIslands();
            case 4: return sleepers();
            case 5: return steps;
            case 6: return deadRows();
            default: throw new IndexOutOfBoundsException("what is not 0 .. 6");
        }
    }

    public float motion() {
        float sum = 0.0f;
        for (int i = 0; i < bodies.size(); i++) {
            Body body = bodies.get(i);
            if (body.movable) {
                sum = sum + body.energy();
            }
        }
        return sum;
    }

    /** Asked this way round, so that NaN is outside. */
    private static boolean outside(float x, float low, float high) {
        return !(x >= low && x <= high);
    }

    private static boolean anyOutside(float x, float y, float z, float most) {
        return outside(x, -most, most) || outside(y, -most, most) || outside(z, -most, most);
    }

    private static float hold(float x, float low, float high) {
        return x < low ? low : x > high ? high : x;
    }

    private boolean isBody(int number) {
        return number >= 0 && number < bodies.size();
    }

    private Body bodyAt(int number) {
        if (!isBody(number)) {
            throw new IndexOutOfBoundsException("there is no such body");
        }
        return bodies.get(number);
    }

    /** A row's second body; null stands for NONE. */
    private Body otherBody(int number) {
        return number == NONE ? null : bodyAt(number);
    }

    private Row rowAt(int number) {
        if (number < 0 || number >= rows.size()) {
            throw new IndexOutOfBoundsException("there is no such row");
        }
        return rows.get(number);
    }

    private void checkPair(int a, int b) {
        if (!isBody(a) || (b != NONE && !isBody(b)) || a == b) {
            throw new IndexOutOfBoundsException("there are no such two bodies");
        }
    }

    private void checkRoomForRow() {
        if (rows.size() >= MOST_ROWS) {
            throw new IllegalStateException("there are 1024 rows");
        }
    }

    private Row newRow(int a, int b, float target, int key) {
        Row made = new Row(bodyAt(a), otherBody(b), padN, padP, padQ);
        made.target = target;
        made.key = key;
        return made;
    }

    private int addRow(Row made) {
        Row before = keptRow(made.key);
        if (before != null) {
            made.impulse = made.held(before.impulse);
        }
        made.enterBodies();
        rows.add(made);
        return rows.size() - 1;
    }

    /** The first row with this key when the rows were cleared latest, or null. */
    private Row keptRow(int key) {
        if (key < 0) {
            return null;
        }
        for (int i = 0; i < kept.size(); i++) {
            Row row = kept.get(i);
            if (row.key == key) {
                return row;
            }
        }
        return null;
    }

    private void numberIslands() {
        islandCount = 0;
        for (int i = 0; i < bodies.size(); i++) {
            Body body = bodies.get(i);
            if (body.movable) {
                Body lowest = body.lowest();
                if (lowest == body) {
                    body.island = islandCount;
                    islandCount++;
                } else {
                    // The lowest body has a lower number, so its island is known by now.
                    body.island = lowest.island;
                }
            }
        }
    }

    private boolean isIsland(int number) {
        return number >= 0 && number < islandCount;
    }

    private int workerOn(int island) {
        return isIsland(island) ? workerOf[island] : NONE;
    }

    /** Islands that sleep get the worker NONE, all others the worker 0 until they are dealt out. */
    private void markAwake() {
        for (int k = 0; k < islandCount; k++) {
            workerOf[k] = NONE;
        }
        for (int i = 0; i < bodies.size(); i++) {
            Body body = bodies.get(i);
            if (isIsland(body.island) && !body.asleep) {
                workerOf[body.island] = 0;
            }
        }
    }

    private int awakeIslands() {
        int awake = 0;
        for (int k = 0; k < islandCount; k++) {
            if (workerOf[k] != NONE) {
                awake++;
            }
        }
        return awake;
    }

    private int sleepers() {
        int asleep = 0;
        for (int i = 0; i < bodies.size(); i++) {
            if (bodies.get(i).asleep) {
                asleep++;
            }
        }
        return asleep;
    }

    private int deadRows() {
        measureRows();
        int dead = 0;
        for (int i = 0; i < rows.size(); i++) {
            if (rows.get(i).dead) {
                dead++;
            }
        }
        return dead;
    }

    private void measureRows() {
        for (int i = 0; i < rows.size(); i++) {
            rows.get(i).measure();
        }
    }

    private void stepOnce() {
        markAwake();
        rouseAwakeIslands();
        dealOutIslands();
        dealOutRows();
        for (int worker = workerCount - 1; worker >= 0; worker--) {
            solveRowsOf(worker);
        }
        settleBodies();
        if (still > 0) {
            markRestless();
            layToSleep();
        }
        steps++;
    }

    private void rouseAwakeIslands() {
        for (int i = 0; i < bodies.size(); i++) {
            Body body = bodies.get(i);
            if (body.asleep && workerOn(body.island) != NONE) {
                body.rouse();
            }
        }
    }

    private void dealOutIslands() {
        int next = 0;
        for (int k = 0; k < islandCount; k++) {
            if (workerOf[k] != NONE) {
                workerOf[k] = next;
                next = next + 1 < workerCount ? next + 1 : 0;
            }
        }
    }

    /** Goes backwards, since each row is put before those that its worker has. */
    private void dealOutRows() {
        for (int worker = 0; worker < MOST_WORKERS; worker++) {
            firstRow[worker] = null;
        }
        for (int i = rows.size() - 1; i >= 0; i--) {
            Row row = rows.get(i);
            int worker = workerOn(row.island());
            if (worker != NONE) {
                row.next = firstRow[worker];
                firstRow[worker] = row;
            }
        }
    }

    private void solveRowsOf(int worker) {
        for (Row row = firstRow[worker]; row != null; row = row.next) {
            row.begin(warm);
        }
        for (int round = 0; round < rounds; round++) {
            for (Row row = firstRow[worker]; row != null; row = row.next) {
                row.solve();
            }
        }
    }

    private void settleBodies() {
        for (int i = 0; i < bodies.size(); i++) {
            Body body = bodies.get(i);
            if (workerOn(body.island) != NONE) {
                body.settle(calm);
            }
        }
    }

    private void markRestless() {
        for (int k = 0; k < islandCount; k++) {
            // One that sleeps already is not laid to sleep once more.
            restless[k] = workerOf[k] == NONE;
        }
        for (int i = 0; i < bodies.size(); i++) {
            Body body = bodies.get(i);
            if (isIsland(body.island) && body.quiet < still) {
                restless[body.island] = true;
            }
        }
    }

    private void layToSleep() {
        for (int i = 0; i < bodies.size(); i++) {
            Body body = bodies.get(i);
            if (isIsland(body.island) && !restless[body.island]) {
                body.fallAsleep();
            }
        }
    }

    /** Changed in place, so that a step makes no objects. */
    private static final class Vec {
        float x;
        float y;
        float z;

        void put(float newX, float newY, float newZ) {
            x = newX;
            y = newY;
            z = newZ;
        }

        float dot(Vec other) {
            return x * other.x + y * other.y + z * other.z;
        }

        void add(Vec other, float times) {
            x = x + other.x * times;
            y = y + other.y * times;
            z = z + other.z * times;
        }

        void subtract(Vec other, float times) {
            x = x - other.x * times;
            y = y - other.y * times;
            z = z - other.z * times;
        }

        void holdWithin(float most) {
            x = hold(x, -most, most);
            y = hold(y, -most, most);
            z = hold(z, -most, most);
        }
    }

    private static final class Body {
        final int number;
        final boolean movable;
        final float w;
        final float xx;
        final float yy;
        final float zz;
        float xy;
        float yz;
        float zx;
        final Vec v = new Vec();
        final Vec s = new Vec();
        boolean asleep;
        int quiet;
        int rowCount;
        int island = NONE;
        /** A lower body of the same island, or null if this is the lowest. */
        Body lower;

        Body(int number, float w, float xx, float yy, float zz) {
            this.number = number;
            this.w = w;
            this.xx = xx;
            this.yy = yy;
            this.zz = zz;
            this.movable = w > 0 || xx + yy + zz > 0;
        }

        /** The lowest body of the island. */
        Body lowest() {
            Body found = this;
            while (found.lower != null) {
                found = found.lower;
            }
            if (found != this) {
                // A short way for the next time keeps the chains from growing long.
                lower = found;
            }
            return found;
        }

        void join(Body other) {
            Body mine = lowest();
            Body its = other.lowest();
            if (mine.number < its.number) {
                its.lower = mine;
            } else if (its.number < mine.number) {
                mine.lower = its;
            }
        }

        void leaveRows() {
            lower = null;
            rowCount = 0;
        }

        void rouse() {
            asleep = false;
            quiet = 0;
        }

        void fallAsleep() {
            asleep = true;
            v.put(0.0f, 0.0f, 0.0f);
            s.put(0.0f, 0.0f, 0.0f);
        }

        float energy() {
            return v.dot(v) + s.dot(s);
        }

        void settle(float calm) {
            v.holdWithin(4096.0f);
            s.holdWithin(4096.0f);
            quiet = energy() < calm ? quiet + 1 : 0;
        }

        /** The inverse mass as rows see it. */
        float rowMass() {
            return movable ? w : 0.0f;
        }

        /** The inverse inertia, as rows see it, times p. */
        void turn(Vec p, Vec result) {
            if (!movable) {
                // It can lean all the same, which is of no meaning in rows.
                result.put(0.0f, 0.0f, 0.0f);
                return;
            }
            result.put(xx * p.x + xy * p.y + zx * p.z,
                    xy * p.x + yy * p.y + yz * p.z,
                    zx * p.x + yz * p.y + zz * p.z);
        }
    }

    private static final class Row {
        final Body a;
        /** null stands for NONE. */
        final Body b;
        final Vec n = new Vec();
        final Vec p = new Vec();
        final Vec q = new Vec();
        float target;
        float soft;
        float low;
        float high;
        /** The row that this one rubs at, or null if it has limits of its own. */
        Row at;
        float friction;
        int key;
        float impulse;
        float stiffness;
        boolean dead;
        /** The inertia of a times P and that of b times Q, kept from measure() for the rounds. */
        final Vec turnA = new Vec();
        final Vec turnB = new Vec();
        /** The next row of the same worker, or null. */
        Row next;

        Row(Body a, Body b, Vec n, Vec p, Vec q) {
            this.a = a;
            this.b = b;
            this.n.put(n.x, n.y, n.z);
            this.p.put(p.x, p.y, p.z);
            this.q.put(q.x, q.y, q.z);
        }

        void enterBodies() {
            a.rowCount++;
            if (b == null) {
                return;
            }
            b.rowCount++;
            if (a.movable && b.movable) {
                a.join(b);
            }
        }

        /** The island of its movable bodies, or NONE. */
        int island() {
            if (a.movable) {
                return a.island;
            }
            return b != null && b.movable ? b.island : NONE;
        }

        float speed() {
            float pushB = b == null ? 0.0f : n.dot(b.v);
            float spinB = b == null ? 0.0f : q.dot(b.s);
            return n.dot(a.v) + p.dot(a.s) - pushB - spinB;
        }

        void measure() {
            float massB = 0.0f;
            a.turn(p, turnA);
            if (b != null) {
                b.turn(q, turnB);
                massB = b.rowMass();
            }
            float nn = n.dot(n);
            stiffness = a.rowMass() * nn + p.dot(turnA) + massB * nn + q.dot(turnB) + soft;
            boolean movesNone = !a.movable && (b == null || !b.movable);
            dead = stiffness < 0.00000095367431640625f || movesNone;
        }

        float held(float wanted) {
            if (at == null) {
                return hold(wanted, low, high);
            }
            float h = friction * at.impulse;
            if (h < 0) {
                h = 0.0f;
            }
            return hold(wanted, 0.0f - h, h);
        }

        void begin(float warm) {
            if (dead) {
                impulse = 0.0f;
                return;
            }
            impulse = held(impulse * warm);
            push(impulse);
        }

        void solve() {
            // A stiffness of 0 is dead, so that nothing is divided by it.
            if (dead) {
                return;
            }
            float wanted = held(impulse + (target - speed() - soft * impulse) / stiffness);
            float d = wanted - impulse;
            impulse = wanted;
            push(d);
        }

        void push(float d) {
            if (a.movable) {
                a.v.add(n, a.w * d);
                a.s.add(turnA, d);
            }
            if (b != null && b.movable) {
                b.v.subtract(n, b.w * d);
                b.s.subtract(turnB, d);
            }
        }
    }
}
