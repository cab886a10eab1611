/** Promise 11: second. */
public final class SecondTest {
    public static void main(String[] args) {
        Scene s = new Scene(2);
        s.x.dispatch(3);
        int thrower = s.throwing(Scene.EXCEPTION, 11);
        s.routine(3, s.resource(s.wrap(Scene.MONITOR, -1), s.throwing(0, 0)));
        Due.due("the outcome", s.runs(thrower), ThrowScenario.HANDLER_THREW);
        long[][] due = {{Scene.MONITOR, -1, 1}, {Scene.EXCEPTION, 11, 0}};
        for (int k = 0; k < 2; k++) {
            for (int what = 0; what < 3; what++) {
                Due.due("second(" + k + ", " + what + ")", s.x.second(k, what), due[k][what]);
            }
        }
        int[] wrong = {-1, 3, Integer.MIN_VALUE, Integer.MAX_VALUE};
        for (int w : wrong) {
            Due.due("second(0, " + w + ")", s.x.second(0, w), ThrowScenario.NONE);
            Due.due("second(" + w + ", 0)", s.x.second(w, 0), ThrowScenario.NONE);
        }
        Due.due("second(2, 0)", s.x.second(2, 0), ThrowScenario.NONE);
        Due.due("failure(0, 0)", s.x.failure(0, 0), Scene.EXCEPTION);
        Due.due("failure(1, 0)", s.x.failure(1, 0), ThrowScenario.NONE);
        s.x.run(9, 0, 0);
        Due.due("second(0, 0) after a refused run", s.x.second(0, 0), Scene.MONITOR);
        s.routine(3, s.log(1));
        s.runs(thrower);
        Due.due("dispatched routine that ends", s.x.second(0, 0), ThrowScenario.NONE);
        s.routine(3, s.rethrow());
        s.runs(s.resource(thrower, s.throwing(0, 0)));
        Due.due("the FAILURE again", s.x.second(0, 1), 11);
        Due.due("with what it suppressed", s.x.second(0, 2), 1);
        s.runs(s.log(1));
        Due.due("after a run that ended", s.x.second(0, 0), ThrowScenario.NONE);
        Due.finish();
    }
}
