/** Terms: what ENDS THE RUN AT ONCE. */
public final class EndsAtOnceTest {
    public static void main(String[] args) {
        exitThroughEverything();
        exitInEveryPart();
        threeHundred();
        theNextOne();
        theNextOneAsAPart();
        noNextOne();
        tiredThroughEverything();
        eachTimeCounts();
        nodesOfTheDispatchedRoutine();
        theDispatchedRoutineIsTheNextOne();
        Due.finish();
    }

    /** A statement around a CALL of routine 1 that would log if more than that was done. */
    private static int guarded(Scene s) {
        int caught = s.tryCatch(s.call(1), Scene.THROWABLE, s.log(1));
        int closed = s.resource(s.atLast(caught, s.log(2)), s.log(3));
        return s.loop(3, s.sequence(s.lock(0, closed), s.log(4)));
    }

    private static void dueEndedAtOnce(Scene s) {
        Due.dueText("nothing more is done", s.logText(), "");
        Due.due("no handler, count(4)", s.x.count(4), 0);
        Due.due("no second part, count(5)", s.x.count(5), 0);
        Due.due("no leaving of a LOCK, count(8)", s.x.count(8), 1);
        Due.due("nor of the inner one, count(9)", s.x.count(9), 1);
    }

    private static void exitThroughEverything() {
        Due.by("Terms", "19 ENDS THE RUN AT ONCE: nothing more is done, no FINALLY, closing or leaving of a LOCK.");
        Scene s = new Scene(2);
        s.routine(1, s.lock(1, s.exit(1)));
        Due.due("run", s.runs(guarded(s), 0, 9), ThrowScenario.EXITED);
        dueEndedAtOnce(s);
        Due.due("STATUS", s.x.value(), 9);
        Due.due("nodes begun", s.x.count(2), 9);
    }

    private static void exitInEveryPart() {
        Due.by("Terms", "19 ENDS THE RUN AT ONCE: nothing more is done");
        Scene s = new Scene(1);
        int exit = s.exit(1);
        int thrower = s.throwing(0, 1);
        s.dueReport("in a second part of 14", s.atLast(thrower, exit), 0, 7, "exit 7");
        s.dueReport("in a second part of 14, after a RETURN", s.atLast(s.returns(0), exit), 0, 7, "exit 7");
        s.dueReport("in a closing", s.resource(thrower, exit), 0, 7, "exit 7");
        s.dueReport("in a closing, after a normal part", s.resource(s.log(1), exit), 0, 7, "exit 7");
        s.dueReport("in a handler", s.tryCatch(thrower, 0, exit), 0, 7, "exit 7");
        s.dueReport("in a LOOP", s.loop(8, exit), 0, 7, "exit 7");
        Due.due("once", s.x.count(2), 2);
        s.dueReport("in a first part", s.sequence(exit, s.log(1)), 0, 7, "exit 7");
        Due.due("the second is not done", s.x.count(7), 0);
    }

    private static void threeHundred() {
        Due.by("Terms", "So does the 301st node that would be begun in a run");
        Scene s = new Scene(2);
        Due.due("299 nodes", s.runs(s.begunAs(299, s.set(2, 1))), ThrowScenario.ENDED);
        Due.due("count(2)", s.x.count(2), 299);
        Scene t = new Scene(2);
        Due.due("300 nodes", t.runs(t.begunAs(300, t.set(2, 1))), ThrowScenario.ENDED);
        Due.due("count(2)", t.x.count(2), 300);
        Due.due("the 300th is done", t.x.variable(2), 1);
        Scene u = new Scene(2);
        Due.due("a throw by the 300th", u.runs(u.begunAs(300, u.throwing(0, 4))), ThrowScenario.UNCAUGHT);
        Scene v = new Scene(2);
        Due.due("an EXIT by the 300th", v.runs(v.begunAs(300, v.exit(1)), 0, 6), ThrowScenario.EXITED);
        Scene w = new Scene(2);
        Due.due("a RETURN by the 300th", w.runs(w.begunAs(300, w.returns(1)), 0, 6), ThrowScenario.ENDED);
        Due.due("its value", w.x.value(), 6);
    }

    private static void theNextOne() {
        Due.by("Terms", "So does the 301st node that would be begun in a run");
        Scene s = new Scene(2);
        Due.due("301 nodes", s.runs(s.sequence(s.begunAs(299, s.set(2, 1)), s.set(2, 2))), ThrowScenario.TIRED);
        Due.due("the 301st is not begun, count(2)", s.x.count(2), 300);
        Due.due("it is not done", s.x.variable(2), 1);
        Due.due("value()", s.x.value(), ThrowScenario.NONE);
        Due.dueText("the report", s.reportText(), "tired");
        Scene t = new Scene(2);
        Due.due("an EXIT as the 301st", t.runs(t.sequence(t.begunAs(299, t.set(2, 1)), t.exit(2))), ThrowScenario.TIRED);
        Scene u = new Scene(2);
        Due.due("a throw as the 301st", u.runs(u.sequence(u.begunAs(299, u.set(2, 1)), u.throwing(0, 0))), ThrowScenario.TIRED);
        Due.due("none was made", u.x.count(3), 0);
    }

    /** Runs a statement whose part is the 301st node. */
    private static void dueTired(String name, Scene s, int number, int node) {
        Due.due(name + " is the 301st, run", s.runs(s.begunAs(number, node), 1, 0), ThrowScenario.TIRED);
        Due.due(name + " is the 301st, count(2)", s.x.count(2), 300);
        Due.dueText(name + " is the 301st, log", s.logText(), "");
        Due.due(name + " is the 301st, count(4)", s.x.count(4), 0);
        Due.due(name + " is the 301st, count(5)", s.x.count(5), 0);
    }

    private static void theNextOneAsAPart() {
        Due.by("Terms", "So does the 301st node that would be begun in a run");
        Scene s = new Scene(2);
        int log = s.log(1);
        dueTired("first of a SEQUENCE", s, 300, s.sequence(log, log));
        dueTired("second of a SEQUENCE", s, 299, s.sequence(s.set(2, 0), log));
        dueTired("part of an IF", s, 300, s.choose(0, log, log));
        Scene t = new Scene(2);
        dueTired("part of a LOOP", t, 300, t.loop(1, t.log(1)));
        dueTired("second time of a LOOP", t, 299, t.loop(2, t.set(2, 0)));
        dueTired("part of a TRY", t, 300, t.tryCatch(t.log(1), 0, t.log(1)));
        dueTired("part of a LOCK", t, 300, t.lock(1, t.log(1)));
        Due.due("the LOCK is not left, count(9)", t.x.count(9), 1);
        Scene u = new Scene(2);
        u.routine(1, u.log(1));
        dueTired("a CALLED statement", u, 300, u.call(1));
        int thrower = u.throwing(0, 1);
        dueTired("a handler", u, 299, u.tryCatch(thrower, 0, u.log(1)));
        dueTired("a second part of 14", u, 299, u.atLast(thrower, u.log(1)));
        Scene v = new Scene(2);
        dueTired("a second part of 15", v, 299, v.resource(v.throwing(0, 1), v.log(1)));
        Due.due("no FAILURE", v.x.failure(0, 0), ThrowScenario.NONE);
        dueTired("a second part of 15 after a RETURN", v, 299, v.resource(v.returns(0), v.log(1)));
    }

    private static void noNextOne() {
        Due.by("Terms", "So does the 301st node that would be begun in a run");
        Scene s = new Scene(2);
        Due.due("an IF with nothing as the 300th", s.runs(s.begunAs(300, s.choose(2, s.log(1), Scene.NOTHING))), ThrowScenario.ENDED);
        Due.due("a CALL of none as the 300th", s.runs(s.begunAs(300, s.call(4))), ThrowScenario.ENDED);
        Scene t = new Scene(2);
        t.routine(1, t.call(0));
        Due.due("a CALL that is too deep as the 300th", t.runs(t.begunAs(299, t.call(1))), ThrowScenario.UNCAUGHT);
        Due.due("its class", t.x.failure(0, 0), Scene.DEPTH);
        Due.due("count(2)", t.x.count(2), 300);
    }

    private static void tiredThroughEverything() {
        Due.by("Terms", "19 ENDS THE RUN AT ONCE: nothing more is done, no FINALLY, closing or leaving of a LOCK. So does the 301st node");
        Scene s = new Scene(2);
        s.routine(1, s.lock(1, s.endless(2)));
        Due.due("run", s.runs(guarded(s)), ThrowScenario.TIRED);
        dueEndedAtOnce(s);
        Due.due("count(2)", s.x.count(2), 300);
    }

    private static void eachTimeCounts() {
        Due.by("Terms", "(each time that a node is done counts");
        Scene s = new Scene(2);
        Due.due("four nodes, done again and again", s.runs(s.endless(2)), ThrowScenario.TIRED);
        Due.due("count(2)", s.x.count(2), 300);
        Due.due("the innermost was done 261 times", s.x.variable(2), 261);
        s.routine(1, s.add(1, 1));
        Due.due("a CALLED one", s.runs(s.loop(8, s.loop(8, s.loop(8, s.call(1))))), ThrowScenario.TIRED);
        Due.due("count(2)", s.x.count(2), 300);
        Due.due("the next run counts anew", s.runs(s.log(1)), ThrowScenario.ENDED);
        Due.due("count(2)", s.x.count(2), 1);
    }

    private static void nodesOfTheDispatchedRoutine() {
        Due.by("Terms", "nodes of the dispatched routine too)");
        Scene s = new Scene(2);
        s.x.dispatch(1);
        s.routine(1, s.set(2, 1));
        int thrower = s.throwing(Scene.CAST, 2);
        Due.due("299 and one", s.runs(s.begunAs(299, thrower)), ThrowScenario.DISPATCHED);
        Due.due("count(2)", s.x.count(2), 300);
        Scene t = new Scene(2);
        t.x.dispatch(1);
        t.routine(1, t.sequence(t.set(2, 1), t.set(2, 2)));
        int other = t.throwing(Scene.CAST, 2);
        Due.due("298 and three", t.runs(t.begunAs(298, other)), ThrowScenario.TIRED);
        Due.due("count(2)", t.x.count(2), 300);
        Due.due("the last is not done", t.x.variable(2), 1);
        Due.dueText("the report", t.reportText(), "tired Cast(2)");
        Due.due("297 and three", t.runs(t.begunAs(297, other)), ThrowScenario.DISPATCHED);
        Due.due("the last is done", t.x.variable(2), 2);
    }

    private static void theDispatchedRoutineIsTheNextOne() {
        Due.by("Terms", "nodes of the dispatched routine too)");
        Scene s = new Scene(2);
        int thrower = s.begunAs(300, s.throwing(Scene.CAST, 2));
        Due.due("the 300th throws, none is dispatched to", s.runs(thrower), ThrowScenario.UNCAUGHT);
        s.x.dispatch(1);
        Due.due("the 300th throws, an undefined one is dispatched to", s.runs(thrower), ThrowScenario.UNCAUGHT);
        s.routine(1, s.set(2, 1));
        Due.due("the 300th throws, one is dispatched to", s.runs(thrower), ThrowScenario.TIRED);
        Due.due("it is not done", s.x.variable(2), 0);
        Due.due("the FAILURE", s.x.failure(0, 0), Scene.CAST);
        Due.dueText("the report", s.reportText(), "tired Cast(2)");
    }
}
