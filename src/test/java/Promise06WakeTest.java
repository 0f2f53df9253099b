/** Promise 6: wake. */
public final class Promise06WakeTest {
    public static void main(String[] args) {
        IslandSolver solver = Worlds.sleepers(3);
        solver.settings(8, 1, 64, 2);
        Check.same("wake of one that is asleep", solver.wake(1), true);
        Check.same("asleep behind it", solver.about(1, 1), 0);
        Check.same("quiet behind it", solver.about(1, 2), 0);
        Check.same("the others sleep on", solver.count(4), 2);
        Check.same("wake of one that is awake", solver.wake(1), false);
        solver.step(1);
        Check.same("quiet for a step", solver.about(1, 2), 1);
        Check.same("wake of one that was quiet", solver.wake(1), false);
        Check.same("quiet behind it", solver.about(1, 2), 0);
        IslandSolver rock = new IslandSolver();
        rock.body(0, 0, 0, 0);
        rock.settings(8, 1, 64, 1);
        rock.step(3);
        Check.same("one that is not movable never sleeps", rock.wake(0), false);
        for (int body : new int[] {-1, 3, Integer.MIN_VALUE, Integer.MAX_VALUE}) {
            Check.index("wake(" + body + ")", solver, () -> solver.wake(body));
        }
        Check.end();
    }
}
