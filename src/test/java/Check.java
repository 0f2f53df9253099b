/** Counts and prints the answers that are not as due; a test ends with exit code 1 if there was one. */
final class Check {
    private static int asked = 0;
    private static int wrong = 0;

    private Check() {
    }

    /** A call that is due to throw. */
    interface Call {
        void run();
    }

    static void that(String what, boolean holds) {
        asked++;
        if (!holds) {
            wrong++;
            System.out.println("does not hold: " + what);
        }
    }

    static void same(String what, long got, long due) {
        that(what + " answered " + got + ", due is " + due, got == due);
    }

    static void same(String what, boolean got, boolean due) {
        that(what + " answered " + got + ", due is " + due, got == due);
    }

    /** To the last bit. */
    static void same(String what, float got, float due) {
        boolean alike = Float.floatToIntBits(got) == Float.floatToIntBits(due);
        that(what + " answered " + got + ", due is " + due, alike);
    }

    static void same(String what, String got, String due) {
        that(what + " answered\n" + got + "\ndue is\n" + due, got.equals(due));
    }

    static void index(String what, IslandSolver solver, Call call) {
        fails(what, IndexOutOfBoundsException.class, solver, call);
    }

    static void argument(String what, IslandSolver solver, Call call) {
        fails(what, IllegalArgumentException.class, solver, call);
    }

    static void state(String what, IslandSolver solver, Call call) {
        fails(what, IllegalStateException.class, solver, call);
    }

    /** A call that is due to throw nothing. */
    static void taken(String what, Call call) {
        RuntimeException got = thrownBy(call);
        that(what + " is refused by " + got, got == null);
    }

    /** The very class is due, since the machine's own exceptions are below these; and that nothing changes. */
    private static void fails(String what, Class<?> due, IslandSolver solver, Call call) {
        String before = Worlds.picture(solver);
        RuntimeException got = thrownBy(call);
        that(what + " throws " + got + ", due is " + due, got != null && got.getClass() == due);
        that(what + " is refused by the class itself", got != null && isThrownByTheClass(got));
        same("the state behind " + what, Worlds.picture(solver), before);
    }

    private static RuntimeException thrownBy(Call call) {
        try {
            call.run();
            return null;
        } catch (RuntimeException e) {
            return e;
        }
    }

    /** A list throws the same class as is due; the place tells that the index was not looked at before. */
    static boolean isThrownByTheClass(RuntimeException e) {
        return isThrownIn("IslandSolver", e);
    }

    static boolean isThrownIn(String name, RuntimeException e) {
        StackTraceElement[] places = e.getStackTrace();
        return places.length > 0 && places[0].getClassName().split("\\$")[0].equals(name);
    }

    /** The last line of a test's main method. */
    static void end() {
        System.out.println(asked + " answers, " + wrong + " not as due");
        if (wrong != 0 || asked == 0) {
            System.exit(1);
        }
    }
}
