/** Terms: which THROWABLE is AT HAND. */
public final class AtHandTest {
    public static void main(String[] args) {
        innermost();
        onlyInAHandler();
        inEveryPartOfAHandler();
        whenAnotherHandlerIsOver();
        calledBeginsWithNone();
        Due.finish();
    }

    private static void innermost() {
        Due.by("Terms", "AT HAND is the THROWABLE of the innermost handler c that is being done");
        Scene s = new Scene(1);
        int one = s.throwing(Scene.ARITHMETIC, 1);
        int two = s.throwing(Scene.CAST, 2);
        int origin = s.origin();
        int inner = s.tryCatch(s.sequence(origin, two), 0, origin);
        s.dueLog("the outer, the inner, the outer again", s.tryCatch(one, 0, s.all(origin, inner, origin)), "2 2 4 2");
        int innermost = s.tryCatch(one, 0, s.tryCatch(two, 0, s.rethrow()));
        s.dueReport("RETHROW of the inner", innermost, "uncaught Cast(2)");
        s.dueReport("WRAP of the inner", s.tryCatch(one, 0, s.tryCatch(two, 0, s.wrap(0, 3))), "uncaught Throwable(3) from Cast(2)");
        s.dueReport("RETHROW of the outer", s.tryCatch(one, 0, s.sequence(inner, s.rethrow())), "uncaught Arithmetic(1)");
    }

    private static void onlyInAHandler() {
        Due.by("Terms", "AT HAND is the THROWABLE of the innermost handler c that is being done in this routine's statement");
        Scene s = new Scene(1);
        int one = s.throwing(Scene.ARITHMETIC, 1);
        int origin = s.origin();
        s.dueLog("none before and behind", s.all(origin, s.tryCatch(one, 0, origin), origin), "2");
        s.dueLog("none in a second part of 14", s.tryCatch(s.atLast(one, origin), 0, s.log(5)), "5");
        s.dueLog("none in a second part of 15", s.tryCatch(s.resource(one, origin), 0, s.log(5)), "5");
        s.dueLog("none behind a handler that threw", s.tryCatch(s.atLast(s.tryCatch(one, 0, s.rethrow()), origin), 0, s.log(5)), "5");
        s.runs(one);
        s.dueLog("none from the run before", origin, "");
    }

    private static void inEveryPartOfAHandler() {
        Due.by("Terms", "AT HAND is the THROWABLE of the innermost handler c that is being done");
        Scene s = new Scene(1);
        int one = s.throwing(Scene.ARITHMETIC, 1);
        int origin = s.origin();
        int log = s.log(0);
        s.dueLog("in a SEQUENCE", s.tryCatch(one, 0, s.sequence(origin, origin)), "2 2");
        s.dueLog("in an IF that is 0", s.tryCatch(one, 0, s.choose(0, log, origin)), "2");
        s.dueLog("in an IF that is not 0", s.tryCatch(one, 0, s.sequence(s.set(0, 1), s.choose(0, origin, log))), "2");
        s.dueLog("in a LOOP", s.tryCatch(one, 0, s.loop(2, origin)), "2 2");
        int missed = s.tryCatch(s.sequence(origin, s.throwing(Scene.CAST, 2)), Scene.ERROR, log);
        s.dueLog("in a TRY", s.tryCatch(one, 0, missed), "2");
        s.dueLog("in a FINALLY", s.tryCatch(one, 0, s.atLast(origin, origin)), "2 2");
        s.dueLog("in a RESOURCE", s.tryCatch(one, 0, s.resource(origin, origin)), "2 2");
        s.dueLog("in a LOCK", s.tryCatch(one, 0, s.lock(0, origin)), "2");
        s.dueReport("to CAST in a LOCK", s.tryCatch(one, 0, s.lock(0, s.cast(Scene.ERROR))), "uncaught Cast(2)");
        s.dueReport("to WRAP in a LOOP", s.tryCatch(one, 0, s.loop(2, s.wrap(Scene.ERROR, 3))), "uncaught Error(3) from Arithmetic(1)");
    }

    /** A handler that is over leaves nothing behind, whatever part of a node comes next. */
    private static void whenAnotherHandlerIsOver() {
        Due.by("Terms", "AT HAND is the THROWABLE of the innermost handler c that is being done in this routine's statement");
        for (String part : Scene.PARTS) {
            Scene s = new Scene(1);
            int over = s.tryCatch(s.throwing(Scene.CAST, 2), 0, s.log(7));
            int next = s.sequence(over, s.asPart(part, s.origin()));
            s.dueLog("none in " + part, next, "7");
            s.dueLog("the outer one in " + part, s.tryCatch(s.throwing(Scene.ARITHMETIC, 1), 0, next), "7 2");
        }
        Scene s = new Scene(1);
        int one = s.throwing(Scene.ARITHMETIC, 1);
        int over = s.tryCatch(s.throwing(Scene.CAST, 5), 0, s.log(7));
        s.dueReport("CAST of the outer one", s.tryCatch(one, 0, s.sequence(over, s.cast(Scene.CAST))), "uncaught Cast(2)");
        s.dueReport("CAST of the outer one to its class", s.tryCatch(one, 0, s.sequence(over, s.cast(Scene.ARITHMETIC))), "ended");
        s.dueReport("RETHROW of the outer one", s.tryCatch(one, 0, s.sequence(over, s.rethrow())), "uncaught Arithmetic(1)");
        s.dueReport("WRAP of the outer one", s.tryCatch(one, 0, s.sequence(over, s.wrap(Scene.ERROR, 3))), "uncaught Error(3) from Arithmetic(1)");
        s.dueReport("CAST of none", s.sequence(over, s.cast(Scene.ERROR)), "ended");
        s.dueReport("RETHROW of none", s.sequence(over, s.rethrow()), "uncaught Null(0)");
        s.dueReport("WRAP of none", s.sequence(over, s.wrap(Scene.ERROR, 3)), "uncaught Error(3)");
    }

    private static void calledBeginsWithNone() {
        Due.by("Terms", "(a CALLED routine begins with none)");
        Scene s = new Scene(3);
        int one = s.throwing(Scene.ARITHMETIC, 1);
        int handled = s.tryCatch(one, 0, s.call(1));
        s.routine(1, s.sequence(s.cast(Scene.ERROR), s.rethrow()));
        s.dueReport("nothing to CAST and RETHROW there", handled, "uncaught Null(0)");
        s.routine(1, s.wrap(Scene.INDEX, 3));
        s.dueReport("nothing to WRAP there", handled, "uncaught Index(3)");
        s.routine(1, s.origin());
        s.dueLog("no ORIGIN there", handled, "");
        s.routine(1, s.tryCatch(s.throwing(Scene.CAST, 2), 0, s.origin()));
        s.dueLog("its own handler's", handled, "4");
        s.dueReport("still AT HAND after the CALL", s.tryCatch(one, 0, s.sequence(s.call(1), s.rethrow())), "uncaught Arithmetic(1)");
    }
}
