/** Promise 5: dispatch. */
public final class DispatchTest {
    private static final String SECTION = "Promise 5: dispatch";

    public static void main(String[] args) {
        everyRoutine();
        notDefined();
        toNone();
        refused();
        Due.finish();
    }

    private static void everyRoutine() {
        Due.by(SECTION, "THROWABLES that a run THROWS are dispatched to routine r 0 .. 5 from now on");
        Scene s = new Scene(1);
        int thrower = s.throwing(Scene.ERROR, 1);
        for (int r = 1; r <= 5; r++) {
            s.routine(r, s.log(r));
        }
        for (int r = 1; r <= 5; r++) {
            Due.due("dispatch(" + r + ")", s.x.dispatch(r), 0);
            Due.due("run(0)", s.runs(thrower), ThrowScenario.DISPATCHED);
            Due.dueText("its log", s.logText(), "" + r);
            Due.due("run(0) again", s.runs(thrower), ThrowScenario.DISPATCHED);
        }
        Due.due("dispatch(0)", s.x.dispatch(0), 0);
        Due.due("run(0)", s.runs(thrower), ThrowScenario.HANDLER_THREW);
        s.routine(0, s.log(7));
        s.routine(1, thrower);
        Due.due("run(1)", s.x.run(1, 0, 0), ThrowScenario.DISPATCHED);
        Due.dueText("its log", s.logText(), "7");
    }

    private static void notDefined() {
        Due.by(SECTION, "(if that is not defined when it is needed, there is none)");
        for (int r = 1; r <= 5; r++) {
            Scene s = new Scene(1);
            int thrower = s.throwing(Scene.ERROR, 1);
            Due.due("dispatch(" + r + ")", s.x.dispatch(r), 0);
            Due.due("not defined", s.runs(thrower), ThrowScenario.UNCAUGHT);
            s.routine(r, s.log(4));
            Due.due("defined since", s.runs(thrower), ThrowScenario.DISPATCHED);
            Due.dueText("its log", s.logText(), "4");
            s.routine(r, s.log(5));
            s.runs(thrower);
            Due.dueText("the log of what is defined when it is needed", s.logText(), "5");
        }
    }

    private static void toNone() {
        Due.by(SECTION, "or to none for r = -1: 0.");
        Scene s = new Scene(1);
        int thrower = s.throwing(Scene.ERROR, 1);
        s.routine(1, s.log(4));
        Due.due("dispatch(-1) at first", s.x.dispatch(-1), 0);
        Due.due("run(0)", s.runs(thrower), ThrowScenario.UNCAUGHT);
        s.x.dispatch(1);
        Due.due("run(0), dispatched", s.runs(thrower), ThrowScenario.DISPATCHED);
        Due.due("dispatch(-1)", s.x.dispatch(-1), 0);
        Due.due("run(0), dispatched to none", s.runs(thrower), ThrowScenario.UNCAUGHT);
        Due.dueText("its log", s.logText(), "");
    }

    private static void refused() {
        Due.by(SECTION, "Else REFUSED.");
        int[] wrong = {Integer.MIN_VALUE, -3, -2, 6, 7, Integer.MAX_VALUE};
        for (int r : wrong) {
            Scene s = new Scene(1);
            int thrower = s.throwing(Scene.ERROR, 1);
            s.routine(1, s.log(4));
            Due.due("dispatch(" + r + ")", s.x.dispatch(r), ThrowScenario.REFUSED);
            Due.due("still to none", s.runs(thrower), ThrowScenario.UNCAUGHT);
            s.x.dispatch(1);
            Due.due("dispatch(" + r + ")", s.x.dispatch(r), ThrowScenario.REFUSED);
            Due.due("still to routine 1", s.runs(thrower), ThrowScenario.DISPATCHED);
        }
    }
}
