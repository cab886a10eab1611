/** What it is: an object is good for 512 calls, however dear they are. */
public final class LongUseTest {
    private static final int MOST_CALLS = 512;

    public static void main(String[] args) {
        lastCallTells();
        lastCallRuns();
        Due.finish();
    }

    /** Runs the dearest statement until just so many calls have been made. */
    private static Scene usedFor(int calls) {
        Scene s = new Scene(12);
        s.x.declare(0);
        int caught = s.tryCatch(s.throwing(10, 1), 0, s.log(2));
        s.routine(0, s.loop(8, s.loop(8, s.loop(8, caught))));
        int made = 8;
        while (made < calls) {
            Due.due("call " + (made + 1) + ", run(0, 0, 0)", s.x.run(0, 0, 0), ThrowScenario.TIRED);
            made++;
        }
        return s;
    }

    private static void lastCallTells() {
        Due.by("What it is", "An object is used for at most 512 calls after it has been made");
        Due.due("call 512, count(2)", usedFor(MOST_CALLS - 1).x.count(2), 300);
        Due.due("call 512, logged(85)", usedFor(MOST_CALLS - 1).x.logged(85), 2);
        Due.due("call 512, report(4)", usedFor(MOST_CALLS - 1).x.report(4), 'd');
        Due.due("call 512, declare(10)", usedFor(MOST_CALLS - 1).x.declare(10), 11);
        Due.due("call 512, node(22, 0, 0, 0)", usedFor(MOST_CALLS - 1).x.node(22, 0, 0, 0), 6);
    }

    private static void lastCallRuns() {
        Due.by("What it is", "An object is used for at most 512 calls after it has been made");
        Scene s = usedFor(MOST_CALLS - 3);
        int thrower = s.throwing(10, 3);
        s.routine(1, thrower);
        Due.due("call 512, run(1, 0, 0)", s.x.run(1, 0, 0), ThrowScenario.UNCAUGHT);
    }
}
