/** Promise 10: failure, its cause chain and what was suppressed. */
public final class FailureTest {
    public static void main(String[] args) {
        chain();
        noFailure();
        wrongArguments();
        suppressed();
        deepChain();
        Due.finish();
    }

    private static void chain() {
        Scene s = new Scene(2);
        s.x.declare(Scene.INDEX);
        int inner = s.tryCatch(s.throwing(10, -3), Scene.RUNTIME, s.wrap(Scene.ERROR, 5));
        s.runs(s.tryCatch(inner, Scene.ERROR, s.wrap(Scene.NULL, Integer.MIN_VALUE)));
        long[][] due = {{Scene.NULL, Integer.MIN_VALUE, 0}, {Scene.ERROR, 5, 0}, {10, -3, 0}};
        for (int k = 0; k < 3; k++) {
            for (int what = 0; what < 3; what++) {
                Due.due("failure(" + k + ", " + what + ")", s.x.failure(k, what), due[k][what]);
            }
        }
        Due.due("failure(3, 0)", s.x.failure(3, 0), ThrowScenario.NONE);
        Due.due("second(0, 0)", s.x.second(0, 0), ThrowScenario.NONE);
        s.runs(s.wrap(Scene.CAST, 1));
        Due.due("WRAP with none AT HAND", s.x.failure(0, 0), Scene.CAST);
        Due.due("has no cause", s.x.failure(1, 0), ThrowScenario.NONE);
        s.runs(s.tryCatch(s.throwing(0, 1), 0, s.throwing(0, 2)));
        Due.due("THROW in a handler has no cause", s.x.failure(1, 0), ThrowScenario.NONE);
    }

    private static void noFailure() {
        Scene s = new Scene(2);
        int thrower = s.throwing(0, 1);
        s.runs(thrower);
        s.runs(s.tryCatch(thrower, 0, s.log(1)));
        Due.due("caught", s.x.failure(0, 0), ThrowScenario.NONE);
        s.runs(thrower);
        s.runs(s.atLast(thrower, s.exit(0)));
        Due.due("exit instead", s.x.failure(0, 0), ThrowScenario.NONE);
    }

    private static void wrongArguments() {
        Scene s = new Scene(2);
        s.runs(s.throwing(0, 1));
        int[] wrong = {-1, 3, Integer.MIN_VALUE, Integer.MAX_VALUE};
        for (int w : wrong) {
            Due.due("failure(0, " + w + ")", s.x.failure(0, w), ThrowScenario.NONE);
            Due.due("failure(" + w + ", 0)", s.x.failure(w, 0), ThrowScenario.NONE);
        }
    }

    private static void suppressed() {
        Scene s = new Scene(2);
        int first = s.throwing(Scene.EXCEPTION, 1);
        int other = s.throwing(Scene.ERROR, 2);
        int once = s.resource(first, other);
        s.runs(s.resource(s.resource(once, other), other));
        Due.due("three closings that throw", s.x.failure(0, 2), 3);
        Due.due("the first one's message", s.x.failure(0, 1), 1);
        s.runs(once);
        Due.due("anew in the next run", s.x.failure(0, 2), 1);
        s.runs(s.tryCatch(once, 0, s.resource(s.rethrow(), other)));
        Due.due("one more when thrown again", s.x.failure(0, 2), 2);
        s.runs(s.tryCatch(once, 0, s.wrap(Scene.CAST, 3)));
        Due.due("none for the one that wraps", s.x.failure(0, 2), 0);
        Due.due("one for its cause", s.x.failure(1, 2), 1);
        s.runs(s.tryCatch(first, 0, s.resource(s.rethrow(), s.rethrow())));
        Due.due("the same one from both parts", s.x.failure(0, 2), 1);
        s.runs(s.resource(s.log(1), other));
        Due.due("only the closing throws", s.x.failure(0, 1), 2);
        Due.due("nothing suppressed then", s.x.failure(0, 2), 0);
        s.runs(s.resource(first, s.tryCatch(other, 0, s.log(1))));
        Due.due("the closing catches its own", s.x.failure(0, 1), 1);
        Due.due("nothing suppressed then", s.x.failure(0, 2), 0);
        dispatchedSuppresses();
    }

    private static void dispatchedSuppresses() {
        Scene s = new Scene(2);
        s.x.dispatch(1);
        s.routine(1, s.tryCatch(s.resource(s.rethrow(), s.throwing(0, 9)), 0, s.log(1)));
        s.runs(s.throwing(Scene.CAST, 4));
        Due.due("suppressed after the FAILURE was thrown", s.x.failure(0, 2), 1);
        Due.dueText("and told so", s.reportText(), "dispatched Cast(4)+1");
    }

    /** Each depth wraps what the next one throws. */
    private static void deepChain() {
        Scene s = new Scene(12);
        int node = s.call(0);
        for (int i = 0; i < 7; i++) {
            node = s.tryCatch(node, 0, s.wrap(Scene.RUNTIME, i));
        }
        s.runs(node);
        int last = 12 * 7;
        Due.due("first of the chain", s.x.failure(0, 1), 6);
        Due.due("last but one", s.x.failure(last - 1, 1), 0);
        Due.due("last", s.x.failure(last, 0), Scene.DEPTH);
        Due.due("behind the last", s.x.failure(last + 1, 0), ThrowScenario.NONE);
        Due.due("greatest depth", s.x.count(6), 12);
    }
}
