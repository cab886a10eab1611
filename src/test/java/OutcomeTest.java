/** Terms: THE OUTCOME of a run, and what FAILURE and SECOND are. */
public final class OutcomeTest {
    private static final int MIN = Integer.MIN_VALUE;
    private static final int MAX = Integer.MAX_VALUE;

    public static void main(String[] args) {
        ended();
        exited();
        tired();
        uncaught();
        dispatchedAtDepthOne();
        dispatchedWithItAtHand();
        dispatched();
        handlerThrew();
        dispatchedExitsOrTires();
        failureAndSecond();
        Due.finish();
    }

    private static void ended() {
        Due.by("Terms", "ENDED if its routine completes, but not by THROWING");
        Scene s = new Scene(1);
        Due.due("normally", s.runs(s.log(1)), ThrowScenario.ENDED);
        Due.due("by BREAK", s.runs(s.breaks()), ThrowScenario.ENDED);
        Due.due("by RETURN", s.runs(s.returns(0)), ThrowScenario.ENDED);
        Due.due("with a throw that is caught", s.runs(s.tryCatch(s.throwing(0, 1), 0, s.log(1))), ThrowScenario.ENDED);
        s.x.dispatch(1);
        s.routine(1, s.log(9));
        Due.due("normally, and one is dispatched to", s.runs(s.log(1)), ThrowScenario.ENDED);
        Due.dueText("which is not done", s.logText(), "1");
    }

    private static void exited() {
        Due.by("Terms", "EXITED by 19, STATUS being the variable's low eight bits");
        int[][] statuses = {{0, 0}, {1, 1}, {127, 127}, {128, 128}, {255, 255}, {256, 0}, {257, 1}, {300, 44}, {-1, 255}, {-256, 0},
            {-255, 1}, {-257, 255}, {MIN, 0}, {MAX, 255}};
        for (int[] row : statuses) {
            Scene s = new Scene(1);
            Due.due("EXIT with " + row[0], s.runs(s.exit(0), row[0], 3), ThrowScenario.EXITED);
            Due.due("its STATUS", s.x.value(), row[1]);
            Due.dueText("its report", s.reportText(), "exit " + row[1]);
            Due.due("the variable stays", s.x.variable(0), row[0]);
        }
    }

    private static void tired() {
        Due.by("Terms", "TIRED by the 301st node");
        Scene s = new Scene(2);
        Due.due("the 301st", s.runs(s.begunAs(300, s.loop(1, s.log(1)))), ThrowScenario.TIRED);
        Due.due("the 300th", s.runs(s.begunAs(299, s.loop(1, s.log(1)))), ThrowScenario.ENDED);
    }

    private static void uncaught() {
        Due.by("Terms", "if it THROWS: UNCAUGHT if no routine is dispatched to");
        Scene s = new Scene(1);
        int thrower = s.throwing(0, 1);
        s.routine(1, s.log(1));
        Due.due("at first", s.runs(thrower), ThrowScenario.UNCAUGHT);
        s.x.dispatch(1);
        s.x.dispatch(-1);
        Due.due("after dispatch(-1)", s.runs(thrower), ThrowScenario.UNCAUGHT);
        Due.dueText("nothing is done", s.logText(), "");
        s.x.dispatch(2);
        Due.due("to one that is not defined", s.runs(thrower), ThrowScenario.UNCAUGHT);
    }

    private static void dispatchedAtDepthOne() {
        Due.by("Terms", "else that routine's statement is done at depth 1");
        Scene s = new Scene(3);
        s.x.dispatch(1);
        s.routine(1, s.sequence(s.add(2, 1), s.call(1)));
        s.routine(2, s.throwing(Scene.ERROR, 1));
        s.dueReport("thrown at depth 2", s.call(2), "handler threw Error(1) then Depth(3)");
        Due.due("depths of the dispatched routine", s.x.variable(2), 3);
        Scene t = new Scene(12);
        t.x.dispatch(1);
        t.routine(1, t.log(1));
        t.routine(2, t.throwing(Scene.ERROR, 1));
        t.runs(t.throwing(Scene.ERROR, 1));
        Due.due("count(6)", t.x.count(6), 1);
        t.runs(t.call(2));
        Due.due("count(6) of both", t.x.count(6), 2);
    }

    private static void dispatchedWithItAtHand() {
        Due.by("Terms", "that routine's statement is done at depth 1 with the THROWABLE AT HAND");
        Scene s = new Scene(2);
        s.x.dispatch(1);
        s.routine(1, s.all(s.origin(), s.show(0), s.call(2), s.rethrow()));
        s.routine(2, s.origin());
        int thrower = s.all(s.set(0, 5), s.log(8), s.lock(1, s.throwing(Scene.MONITOR, 3)));
        s.dueReport("it rethrows", thrower, "handler threw Monitor(3) then Monitor(3)");
        Due.dueText("it goes on with the variables and the log", s.logText(), "8 6 5");
        Due.due("the same THROWABLE, count(3)", s.x.count(3), 1);
        Due.due("it is no handler c of 13, count(4)", s.x.count(4), 0);
        Due.due("the LOCK was left before, count(9)", s.x.count(9), 0);
    }

    private static void dispatched() {
        Due.by("Terms", "DISPATCHED if it completes, but not by THROWING");
        Scene s = new Scene(1);
        s.x.dispatch(1);
        int thrower = s.throwing(Scene.CAST, 2);
        s.routine(1, s.log(3));
        Due.due("normally", s.runs(thrower, 5, 6), ThrowScenario.DISPATCHED);
        s.routine(1, s.breaks());
        Due.due("by BREAK", s.runs(thrower, 5, 6), ThrowScenario.DISPATCHED);
        s.routine(1, s.returns(1));
        Due.due("by RETURN", s.runs(thrower, 5, 6), ThrowScenario.DISPATCHED);
        Due.due("whose value is not the run's", s.x.value(), ThrowScenario.NONE);
        Due.due("variable 0 stays", s.x.variable(0), 5);
        Due.dueText("its report", s.reportText(), "dispatched Cast(2)");
    }

    private static void handlerThrew() {
        Due.by("Terms", "HANDLER_THREW if it THROWS");
        Scene s = new Scene(1);
        s.x.dispatch(0);
        Due.due("the thrower itself is dispatched to", s.runs(s.throwing(Scene.NULL, 1)), ThrowScenario.HANDLER_THREW);
        Due.due("once, count(3)", s.x.count(3), 2);
        s.x.dispatch(1);
        s.routine(1, s.rethrow());
        Due.due("by RETHROW", s.runs(s.throwing(Scene.NULL, 1)), ThrowScenario.HANDLER_THREW);
        s.routine(1, s.div(2, 2));
        Due.due("by a fault", s.runs(s.throwing(Scene.NULL, 1)), ThrowScenario.HANDLER_THREW);
    }

    private static void dispatchedExitsOrTires() {
        Due.by("Terms", "HANDLER_THREW if it THROWS; EXITED and TIRED as said.");
        Scene s = new Scene(1);
        s.x.dispatch(1);
        int thrower = s.throwing(Scene.CAST, 2);
        s.routine(1, s.atLast(s.exit(1), s.log(1)));
        Due.due("by EXIT", s.runs(thrower, 5, 260), ThrowScenario.EXITED);
        Due.due("its STATUS", s.x.value(), 4);
        Due.dueText("its report", s.reportText(), "exit 4 Cast(2)");
        Due.due("its FAILURE's message", s.x.failure(0, 1), 2);
        Due.dueText("nothing more is done", s.logText(), "");
        s.routine(1, s.endless(2));
        Due.due("by the 301st node", s.runs(thrower), ThrowScenario.TIRED);
        Due.dueText("its report", s.reportText(), "tired Cast(2)");
        Due.due("its FAILURE's message", s.x.failure(0, 1), 2);
        Due.due("value()", s.x.value(), ThrowScenario.NONE);
        Due.due("second(0, 0)", s.x.second(0, 0), ThrowScenario.NONE);
    }

    private static void failureAndSecond() {
        Due.by("Terms", "The FAILURE is what the run's routine THREW, the SECOND what the dispatched one THREW.");
        Scene s = new Scene(1);
        s.x.dispatch(1);
        s.routine(1, s.wrap(Scene.NULL, 7));
        s.runs(s.atLast(s.throwing(Scene.CAST, 2), s.throwing(Scene.INDEX, 3)));
        Due.due("the FAILURE's message", s.x.failure(0, 1), 3);
        Due.due("the SECOND's message", s.x.second(0, 1), 7);
        Due.due("the SECOND's cause is the FAILURE", s.x.second(1, 1), 3);
        s.routine(1, s.tryCatch(s.throwing(Scene.NULL, 7), 0, s.log(1)));
        s.runs(s.throwing(Scene.CAST, 2));
        Due.due("the FAILURE, when another was thrown and caught since", s.x.failure(0, 1), 2);
        Due.due("no SECOND", s.x.second(0, 0), ThrowScenario.NONE);
        s.runs(s.tryCatch(s.throwing(Scene.CAST, 2), 0, s.log(1)));
        Due.due("no FAILURE, when it was caught", s.x.failure(0, 0), ThrowScenario.NONE);
        s.runs(s.atLast(s.throwing(Scene.CAST, 2), s.exit(1)));
        Due.due("no FAILURE, when it was on its way", s.x.failure(0, 0), ThrowScenario.NONE);
    }
}
