/** Promise 11: second. */
public final class SecondTest {
    private static final String SECTION = "Promise 11: second";
    private static final String SAME = "The same of the SECOND.";
    private static final int MIN = Integer.MIN_VALUE;
    private static final int MAX = Integer.MAX_VALUE;

    public static void main(String[] args) {
        chain();
        theFailureAgain();
        noneInTheChain();
        noSecond();
        anotherWhat();
        Due.finish();
    }

    /** A run whose FAILURE is Exception(11), and whose SECOND is Monitor(-1)+1 from that. */
    private static Scene withSecond() {
        Scene s = new Scene(1);
        s.x.dispatch(3);
        s.routine(3, s.resource(s.wrap(Scene.MONITOR, -1), s.throwing(0, 0)));
        Due.due("run", s.runs(s.throwing(Scene.EXCEPTION, 11)), ThrowScenario.HANDLER_THREW);
        return s;
    }

    private static void chain() {
        Due.by(SECTION, SAME);
        Scene s = withSecond();
        long[][] due = {{Scene.MONITOR, -1, 1}, {Scene.EXCEPTION, 11, 0}};
        for (int k = 0; k < 2; k++) {
            for (int what = 0; what < 3; what++) {
                Due.due("second(" + k + ", " + what + ")", s.x.second(k, what), due[k][what]);
            }
        }
        Due.due("failure(0, 0)", s.x.failure(0, 0), Scene.EXCEPTION);
        Due.due("failure(1, 0)", s.x.failure(1, 0), ThrowScenario.NONE);
    }

    private static void theFailureAgain() {
        Due.by(SECTION, SAME);
        Scene s = new Scene(1);
        s.x.dispatch(3);
        s.routine(3, s.rethrow());
        s.runs(s.resource(s.throwing(Scene.EXCEPTION, 11), s.throwing(0, 0)));
        Due.due("second(0, 1)", s.x.second(0, 1), 11);
        Due.due("second(0, 2)", s.x.second(0, 2), 1);
        s.routine(3, s.throwing(Scene.NULL, 12));
        s.runs(s.throwing(Scene.EXCEPTION, 11));
        Due.due("second(0, 1) of one without cause", s.x.second(0, 1), 12);
        Due.due("second(1, 1) of one without cause", s.x.second(1, 1), ThrowScenario.NONE);
    }

    private static void noneInTheChain() {
        Due.by(SECTION, SAME);
        Scene s = withSecond();
        int[] wrong = {MIN, -2, -1, 2, 3, 300, MAX};
        for (int k : wrong) {
            for (int what = 0; what <= 2; what++) {
                Due.due("second(" + k + ", " + what + ") of two", s.x.second(k, what), ThrowScenario.NONE);
            }
        }
    }

    private static void noSecond() {
        Due.by(SECTION, SAME);
        Due.due("second(0, 0) before a run", new ThrowScenario(1).second(0, 0), ThrowScenario.NONE);
        Scene s = withSecond();
        int thrower = s.throwing(Scene.CAST, 1);
        s.x.run(5, 0, 0);
        Due.due("second(0, 0) after a refused run", s.x.second(0, 0), Scene.MONITOR);
        s.runs(s.log(1));
        Due.due("second(0, 0) after ENDED", s.x.second(0, 0), ThrowScenario.NONE);
        s.runs(thrower);
        s.x.dispatch(-1);
        s.runs(thrower);
        Due.due("second(0, 0) after UNCAUGHT", s.x.second(0, 0), ThrowScenario.NONE);
        s.x.dispatch(3);
        int[] without = {s.log(1), s.returns(0), s.exit(0), s.endless(2), s.tryCatch(thrower, 0, s.log(1))};
        for (int node : without) {
            s.routine(3, thrower);
            s.runs(thrower);
            Due.due("second(0, 1)", s.x.second(0, 1), 1);
            s.routine(3, node);
            s.runs(thrower);
            Due.due("second(0, 0) after node " + node, s.x.second(0, 0), ThrowScenario.NONE);
        }
    }

    private static void anotherWhat() {
        Due.by(SECTION, SAME);
        Scene s = withSecond();
        int[] wrong = {MIN, -2, -1, 3, 4, MAX};
        for (int what : wrong) {
            Due.due("second(0, " + what + ")", s.x.second(0, what), ThrowScenario.NONE);
            Due.due("second(1, " + what + ")", s.x.second(1, what), ThrowScenario.NONE);
        }
    }
}
