/** Promise 5: dispatch. */
public final class DispatchTest {
    public static void main(String[] args) {
        arguments();
        whenItIsNeeded();
        whatTheRoutineFinds();
        howItCompletes();
        Due.finish();
    }

    private static void arguments() {
        ThrowScenario x = new ThrowScenario(2);
        for (int r = -1; r <= 5; r++) {
            Due.due("dispatch(" + r + ")", x.dispatch(r), 0);
        }
        int[] wrong = {-2, 6, Integer.MIN_VALUE, Integer.MAX_VALUE};
        for (int r : wrong) {
            Due.due("dispatch(" + r + ")", x.dispatch(r), ThrowScenario.REFUSED);
        }
    }

    private static void whenItIsNeeded() {
        Scene s = new Scene(2);
        int thrower = s.throwing(Scene.ERROR, 1);
        int handler = s.log(4);
        Due.due("dispatch(5)", s.x.dispatch(5), 0);
        Due.due("dispatched to an undefined routine", s.runs(thrower), ThrowScenario.UNCAUGHT);
        s.routine(5, handler);
        Due.due("defined later", s.runs(thrower), ThrowScenario.DISPATCHED);
        Due.dueText("its log", s.logText(), "4");
        Due.due("dispatch(6)", s.x.dispatch(6), ThrowScenario.REFUSED);
        Due.due("after a refusal", s.runs(thrower), ThrowScenario.DISPATCHED);
        Due.due("nothing is thrown", s.runs(s.log(9)), ThrowScenario.ENDED);
        Due.dueText("no handler was done", s.logText(), "9");
        Due.due("dispatch(-1)", s.x.dispatch(-1), 0);
        Due.due("dispatched to none", s.runs(thrower), ThrowScenario.UNCAUGHT);
        Due.due("dispatch(0)", s.x.dispatch(0), 0);
        Due.due("dispatched to the thrower itself", s.runs(thrower), ThrowScenario.HANDLER_THREW);
        Due.due("two were made", s.x.count(3), 2);
    }

    private static void whatTheRoutineFinds() {
        Scene s = new Scene(2);
        s.x.dispatch(1);
        s.routine(1, s.all(s.origin(), s.show(0), s.call(2), s.rethrow()));
        s.routine(2, s.origin());
        int thrower = s.all(s.set(0, 5), s.lock(1, s.throwing(Scene.MONITOR, 3)));
        Due.due("handler that rethrows", s.runs(thrower), ThrowScenario.HANDLER_THREW);
        Due.dueText("AT HAND in the routine, not in the one it calls", s.logText(), "6 5");
        Due.dueText("its report", s.reportText(), "handler threw Monitor(3) then Monitor(3)");
        Due.due("the same one", s.x.count(3), 1);
        Due.due("greatest depth", s.x.count(6), 2);
        Due.due("no handler c of 13", s.x.count(4), 0);
        Due.due("the lock was left", s.x.count(9), 0);
    }

    private static void howItCompletes() {
        Scene s = new Scene(3);
        s.x.dispatch(1);
        int thrower = s.throwing(Scene.CAST, 2);
        s.routine(1, s.breaks());
        Due.due("by BREAK", s.runs(thrower, 5, 6), ThrowScenario.DISPATCHED);
        s.routine(1, s.returns(1));
        Due.due("by RETURN", s.runs(thrower, 5, 6), ThrowScenario.DISPATCHED);
        Due.due("its value is not the run's", s.x.value(), ThrowScenario.NONE);
        Due.due("variable 0 stays", s.x.variable(0), 5);
        Due.dueText("its report", s.reportText(), "dispatched Cast(2)");
        s.routine(1, s.exit(1));
        Due.due("by EXIT", s.runs(thrower, 5, 260), ThrowScenario.EXITED);
        Due.due("its status", s.x.value(), 4);
        Due.dueText("its report", s.reportText(), "exit 4 Cast(2)");
        s.routine(1, s.loop(8, s.loop(8, s.loop(8, s.log(1)))));
        Due.due("by the 301st node", s.runs(thrower), ThrowScenario.TIRED);
        Due.due("nodes of both count", s.x.count(2), 300);
        Due.dueText("its report", s.reportText(), "tired Cast(2)");
        Due.due("its failure", s.x.failure(0, 1), 2);
        s.routine(1, s.call(1));
        Due.due("too deep", s.runs(thrower), ThrowScenario.HANDLER_THREW);
        Due.due("it began at depth 1", s.x.count(2), 4);
    }
}
