/** Promise 10: failure. */
public final class FailureTest {
    private static final String SECTION = "Promise 10: failure";
    private static final int MIN = Integer.MIN_VALUE;
    private static final int MAX = Integer.MAX_VALUE;

    public static void main(String[] args) {
        chain();
        longChain();
        chainOfATree();
        suppressedSince();
        noneInTheChain();
        noFailure();
        anotherWhat();
        Due.finish();
    }

    private static void chain() {
        Due.by(SECTION, "Of the k-th of the cause chain of the last run's FAILURE, the FAILURE itself being 0, what 0: the class,"
            + " 1: the message, 2: how many were suppressed.");
        Scene s = new Scene(1);
        s.x.declare(Scene.INDEX);
        int first = s.throwing(10, -3);
        int closed = s.resource(s.resource(first, first), first);
        int inner = s.tryCatch(closed, Scene.RUNTIME, s.wrap(Scene.ERROR, MAX));
        s.runs(s.tryCatch(s.resource(inner, first), Scene.ERROR, s.wrap(Scene.NULL, MIN)));
        long[][] due = {{Scene.NULL, MIN, 0}, {Scene.ERROR, MAX, 1}, {10, -3, 2}};
        for (int k = 0; k < 3; k++) {
            for (int what = 0; what < 3; what++) {
                Due.due("failure(" + k + ", " + what + ")", s.x.failure(k, what), due[k][what]);
            }
        }
    }

    /** Each depth wraps what the next one throws. */
    private static void longChain() {
        Due.by(SECTION, "Of the k-th of the cause chain of the last run's FAILURE");
        Scene s = new Scene(12);
        int node = s.call(0);
        for (int i = 0; i < 7; i++) {
            node = s.tryCatch(node, 0, s.wrap(Scene.RUNTIME, i));
        }
        s.runs(node);
        int last = 12 * 7;
        for (int k = 0; k < last; k++) {
            Due.due("failure(" + k + ", 1)", s.x.failure(k, 1), 6 - k % 7);
        }
        Due.due("failure(" + last + ", 0)", s.x.failure(last, 0), Scene.DEPTH);
        Due.due("failure(" + (last + 1) + ", 0)", s.x.failure(last + 1, 0), ThrowScenario.NONE);
    }

    /** Every WRAP in a tree of TRYs has the one before it AT HAND. */
    private static void chainOfATree() {
        Due.by(SECTION, "Of the k-th of the cause chain of the last run's FAILURE");
        Scene s = new Scene(1);
        int node = s.wrap(Scene.RUNTIME, 3);
        for (int level = 2; level <= 8; level++) {
            node = s.tryCatch(node, 0, node);
            s.runs(node);
            int length = 1 << level - 1;
            Due.due("the last of " + length, s.x.failure(length - 1, 1), 3);
            Due.due("behind the last of " + length, s.x.failure(length, 1), ThrowScenario.NONE);
        }
    }

    private static void suppressedSince() {
        Due.by(SECTION, "2: how many were suppressed.");
        Scene s = new Scene(1);
        s.x.dispatch(1);
        s.routine(1, s.tryCatch(s.resource(s.rethrow(), s.throwing(0, 9)), 0, s.log(1)));
        s.dueReport("by the dispatched routine", s.throwing(Scene.CAST, 4), "dispatched Cast(4)+1");
        Due.due("failure(0, 2)", s.x.failure(0, 2), 1);
    }

    private static void noneInTheChain() {
        Due.by(SECTION, "NONE if there is none");
        Scene s = new Scene(1);
        int thrower = s.throwing(Scene.CAST, 1);
        s.runs(s.tryCatch(thrower, 0, s.wrap(Scene.NULL, 2)));
        s.runs(thrower);
        int[] wrong = {MIN, -2, -1, 1, 2, 84, 300, MAX};
        for (int k : wrong) {
            for (int what = 0; what <= 2; what++) {
                Due.due("failure(" + k + ", " + what + ") of one", s.x.failure(k, what), ThrowScenario.NONE);
            }
        }
        s.runs(s.tryCatch(thrower, 0, s.wrap(Scene.NULL, 2)));
        Due.due("failure(1, 0) of two", s.x.failure(1, 0), Scene.CAST);
        Due.due("failure(2, 0) of two", s.x.failure(2, 0), ThrowScenario.NONE);
        s.runs(s.tryCatch(thrower, 0, s.throwing(Scene.NULL, 2)));
        Due.due("failure(1, 0) of one thrown in a handler", s.x.failure(1, 0), ThrowScenario.NONE);
    }

    private static void noFailure() {
        Due.by(SECTION, "NONE if there is none");
        Scene s = new Scene(1);
        Due.due("failure(0, 0) before a run", s.x.failure(0, 0), ThrowScenario.NONE);
        int thrower = s.throwing(0, 1);
        int[] without = {s.log(1), s.breaks(), s.returns(0), s.exit(0), s.endless(2), s.tryCatch(thrower, 0, s.log(1)),
            s.atLast(thrower, s.returns(0)), s.atLast(thrower, s.exit(0))};
        for (int node : without) {
            s.runs(thrower);
            Due.due("failure(0, 1)", s.x.failure(0, 1), 1);
            s.runs(node);
            for (int what = 0; what <= 2; what++) {
                Due.due("failure(0, " + what + ") after node " + node, s.x.failure(0, what), ThrowScenario.NONE);
            }
        }
    }

    private static void anotherWhat() {
        Due.by(SECTION, "NONE if there is none, or for another what.");
        Scene s = new Scene(1);
        s.runs(s.throwing(0, 1));
        int[] wrong = {MIN, -2, -1, 3, 4, MAX};
        for (int what : wrong) {
            Due.due("failure(0, " + what + ")", s.x.failure(0, what), ThrowScenario.NONE);
            Due.due("failure(1, " + what + ")", s.x.failure(1, what), ThrowScenario.NONE);
        }
    }
}
