/** The document's terms: what each kind of node does and HOW A NODE COMPLETES. */
public final class StatementsTest {
    public static void main(String[] args) {
        plainOnes();
        ifs();
        loops();
        calls();
        depth();
        catching();
        atHand();
        finallies();
        resources();
        divisions();
        indexes();
        casts();
        monitors();
        origins();
        Due.finish();
    }

    private static void dueLog(String name, Scene s, int node, String want) {
        s.runs(node);
        Due.dueText(name, s.logText(), want);
    }

    private static void dueReport(String name, Scene s, int node, int a, int b, String want) {
        s.runs(node, a, b);
        Due.dueText(name, s.reportText(), want);
    }

    private static void plainOnes() {
        Scene s = new Scene(2);
        dueLog("LOG", s, s.log(-9), "-9");
        dueLog("SET and SHOW", s, s.all(s.set(3, 5), s.show(3), s.set(3, -5), s.show(3), s.show(2)), "5 -5 0");
        dueLog("ADD", s, s.all(s.add(1, 5), s.add(1, -7), s.show(1)), "-2");
        dueLog("ADD wraps", s, s.all(s.set(1, Integer.MIN_VALUE), s.add(1, -1), s.show(1)), "2147483647");
        dueLog("SEQUENCE ends by a part", s, s.all(s.log(1), s.breaks(), s.log(2)), "1");
    }

    private static void ifs() {
        Scene s = new Scene(2);
        int both = s.choose(0, s.log(1), s.log(2));
        int alone = s.choose(1, s.log(3), Scene.NOTHING);
        s.runs(s.sequence(both, alone), 0, 0);
        Due.dueText("IF 0", s.logText(), "2");
        s.runs(s.sequence(both, alone), -1, 5);
        Due.dueText("IF not 0", s.logText(), "1 3");
        dueReport("IF completes as its part", s, s.choose(0, s.returns(0), Scene.NOTHING), 6, 0, "ended 6");
    }

    private static void loops() {
        Scene s = new Scene(2);
        dueLog("LOOP 1", s, s.loop(1, s.log(1)), "1");
        dueLog("LOOP 8", s, s.loop(8, s.log(1)), "1 1 1 1 1 1 1 1");
        int breaksAtTwo = s.all(s.add(0, 1), s.show(0), s.choose(1, s.breaks(), Scene.NOTHING), s.set(1, 1));
        dueLog("BREAK ends the LOOP normally", s, s.sequence(s.loop(5, breaksAtTwo), s.log(9)), "1 2 9");
        dueLog("BREAK ends the innermost LOOP", s, s.loop(2, s.sequence(s.loop(5, s.breaks()), s.log(4))), "4 4");
        dueReport("RETURN ends a LOOP", s, s.loop(3, s.returns(1)), 0, 8, "ended 8");
        dueReport("a throw ends a LOOP", s, s.loop(3, s.throwing(0, 1)), 0, 8, "uncaught Throwable(1)");
        Due.due("after the first", s.x.count(3), 1);
    }

    private static void calls() {
        Scene s = new Scene(3);
        s.routine(1, s.returns(1));
        s.routine(2, s.sequence(s.breaks(), s.log(1)));
        s.routine(3, s.throwing(Scene.CAST, 4));
        s.runs(s.sequence(s.call(1), s.show(0)), 5, 6);
        Due.dueText("RETURN of a CALLED routine", s.logText(), "6");
        Due.dueText("completes the CALL normally", s.reportText(), "ended");
        dueLog("BREAK of a CALLED routine", s, s.loop(2, s.sequence(s.call(2), s.log(7))), "7 7");
        dueReport("throw of a CALLED routine", s, s.sequence(s.call(3), s.log(1)), 0, 0, "uncaught Cast(4)");
        dueLog("CALL of none", s, s.sequence(s.call(5), s.log(3)), "3");
    }

    private static void depth() {
        Scene s = new Scene(3);
        s.routine(0, s.all(s.add(1, 1), s.show(1), s.call(0)));
        Due.due("too deep", s.x.run(0, 0, 0), ThrowScenario.UNCAUGHT);
        Due.dueText("log", s.logText(), "1 2 3");
        Due.dueText("report", s.reportText(), "uncaught Depth(3)");
        Due.due("greatest depth", s.x.count(6), 3);
        Scene one = new Scene(1);
        one.routine(1, one.log(1));
        Due.due("LIMIT 1: any CALL is too deep", one.runs(one.call(1)), ThrowScenario.UNCAUGHT);
        Due.due("LIMIT 1: CALL of none is not", one.runs(one.call(2)), ThrowScenario.ENDED);
        Due.due("LIMIT 1: depth", one.x.count(6), 1);
        dueLog("Depth is an Error", one, one.tryCatch(one.call(1), Scene.ERROR, one.origin()), "5");
        Scene two = new Scene(2);
        two.routine(1, two.log(1));
        dueLog("depth goes back", two, two.sequence(two.call(1), two.call(1)), "1 1");
        openCallsEnd();
    }

    /** The deepest nesting that can be: 12 depths of 8 levels. */
    private static void openCallsEnd() {
        Scene s = new Scene(12);
        int node = s.call(0);
        for (int level = 2; level <= 8; level++) {
            node = s.atLast(node, s.add(2, 1));
        }
        Due.due("12 depths of 8 levels", s.runs(node), ThrowScenario.UNCAUGHT);
        Due.due("second parts", s.x.variable(2), 12 * 7);
        Due.dueText("report", s.reportText(), "uncaught Depth(12)");
    }

    private static void catching() {
        Scene s = new Scene(2);
        int thrower = s.throwing(Scene.NULL, 1);
        dueLog("not thrown, not handled", s, s.sequence(s.tryCatch(s.log(1), 0, s.log(2)), s.log(3)), "1 3");
        dueLog("caught", s, s.sequence(s.tryCatch(thrower, Scene.RUNTIME, s.log(2)), s.log(3)), "2 3");
        dueLog("caught by the outer one", s, s.tryCatch(s.tryCatch(thrower, Scene.ERROR, s.log(2)), Scene.NULL, s.log(3)), "3");
        dueReport("completes as the handler: RETURN", s, s.tryCatch(thrower, 0, s.returns(1)), 0, 4, "ended 4");
        dueReport("completes as the handler: throw", s, s.tryCatch(thrower, 0, s.throwing(0, 5)), 0, 4, "uncaught Throwable(5)");
        dueLog("completes as the handler: BREAK", s, s.loop(3, s.sequence(s.log(1), s.tryCatch(thrower, 0, s.breaks()))), "1");
        dueReport("RETURN of the part", s, s.tryCatch(s.returns(1), 0, s.log(1)), 0, 4, "ended 4");
        dueReport("a handler's throw is not its own", s, s.tryCatch(thrower, 0, s.rethrow()), 0, 0, "uncaught Null(1)");
        Due.due("handlers", s.x.count(4), 1);
        Due.due("the same one", s.x.count(3), 1);
    }

    private static void atHand() {
        Scene s = new Scene(3);
        int one = s.throwing(Scene.ARITHMETIC, 1);
        int two = s.throwing(Scene.CAST, 2);
        int origin = s.origin();
        int inner = s.tryCatch(s.sequence(origin, two), 0, origin);
        dueLog("innermost, then the outer one again", s, s.tryCatch(one, 0, s.all(origin, inner, origin)), "2 2 4 2");
        dueLog("none outside", s, s.all(origin, s.tryCatch(one, 0, origin), origin), "2");
        s.routine(1, s.sequence(s.cast(Scene.ERROR), s.rethrow()));
        dueReport("a CALLED routine begins with none", s, s.tryCatch(one, 0, s.call(1)), 0, 0, "uncaught Null(0)");
        s.routine(1, s.wrap(Scene.INDEX, 3));
        dueReport("nothing to WRAP there", s, s.tryCatch(one, 0, s.call(1)), 0, 0, "uncaught Index(3)");
        s.routine(1, s.tryCatch(two, 0, s.log(8)));
        dueReport("still AT HAND after the CALL", s, s.tryCatch(one, 0, s.sequence(s.call(1), s.rethrow())), 0, 0,
            "uncaught Arithmetic(1)");
        dueLog("not AT HAND in a second part", s, s.tryCatch(s.atLast(one, origin), 0, s.log(5)), "5");
        dueLog("not AT HAND in a closing", s, s.tryCatch(s.resource(one, origin), 0, s.log(5)), "5");
        dueReport("RETHROW of none", s, s.rethrow(), 0, 0, "uncaught Null(0)");
        atHandInEveryPart();
    }

    private static void atHandInEveryPart() {
        Scene s = new Scene(3);
        int one = s.throwing(Scene.ARITHMETIC, 1);
        int origin = s.origin();
        int log = s.log(0);
        int both = s.tryCatch(s.sequence(origin, s.throwing(Scene.CAST, 2)), Scene.ERROR, log);
        dueLog("in a SEQUENCE", s, s.tryCatch(one, 0, s.sequence(origin, origin)), "2 2");
        dueLog("in an IF that is 0", s, s.tryCatch(one, 0, s.choose(0, log, origin)), "2");
        dueLog("in an IF that is not 0", s, s.tryCatch(one, 0, s.sequence(s.set(0, 1), s.choose(0, origin, log))), "2");
        dueLog("in a LOOP", s, s.tryCatch(one, 0, s.loop(2, origin)), "2 2");
        dueLog("in a TRY", s, s.tryCatch(one, 0, both), "2");
        dueLog("in a FINALLY", s, s.tryCatch(one, 0, s.atLast(origin, origin)), "2 2");
        dueLog("in a RESOURCE", s, s.tryCatch(one, 0, s.resource(origin, origin)), "2 2");
        dueLog("in a LOCK", s, s.tryCatch(one, 0, s.lock(0, origin)), "2");
        dueReport("to WRAP in a LOOP", s, s.tryCatch(one, 0, s.loop(2, s.wrap(Scene.ERROR, 3))), 0, 0,
            "uncaught Error(3) from Arithmetic(1)");
    }

    private static void finallies() {
        Scene s = new Scene(3);
        int thrower = s.throwing(Scene.INDEX, 1);
        int log = s.log(1);
        dueLog("after a normal part", s, s.sequence(s.atLast(s.log(0), log), s.log(2)), "0 1 2");
        dueReport("after a throw", s, s.atLast(thrower, log), 0, 0, "uncaught Index(1)");
        Due.dueText("it was done", s.logText(), "1");
        dueReport("after a RETURN", s, s.atLast(s.returns(0), log), 3, 0, "ended 3");
        dueLog("after a BREAK", s, s.loop(3, s.atLast(s.breaks(), log)), "1");
        dueReport("a throw replaces a throw", s, s.atLast(thrower, s.throwing(Scene.CAST, 2)), 0, 0, "uncaught Cast(2)");
        dueReport("a BREAK replaces a throw", s, s.loop(2, s.atLast(thrower, s.breaks())), 0, 0, "ended");
        dueReport("a RETURN replaces a BREAK", s, s.loop(2, s.atLast(s.breaks(), s.returns(0))), 7, 0, "ended 7");
        dueReport("a throw replaces a RETURN", s, s.atLast(s.returns(0), thrower), 7, 0, "uncaught Index(1)");
        int catchesOwn = s.tryCatch(s.throwing(Scene.ERROR, 9), 0, log);
        dueReport("a throw caught in the second part", s, s.atLast(thrower, catchesOwn), 0, 0, "uncaught Index(1)");
    }

    private static void resources() {
        Scene s = new Scene(3);
        int thrower = s.throwing(Scene.INDEX, 1);
        int log = s.log(1);
        int back = s.returns(0);
        dueLog("after a normal part", s, s.sequence(s.resource(s.log(0), log), s.log(2)), "0 1 2");
        dueReport("after a throw", s, s.resource(thrower, log), 0, 0, "uncaught Index(1)");
        dueReport("a throw suppresses a throw", s, s.resource(thrower, s.throwing(Scene.CAST, 2)), 0, 0, "uncaught Index(1)+1");
        Due.due("both were made", s.x.count(3), 2);
        dueReport("a throw stays against a RETURN", s, s.resource(thrower, back), 0, 0, "uncaught Index(1)");
        dueReport("a throw stays against a BREAK", s, s.loop(2, s.resource(thrower, s.breaks())), 0, 0, "uncaught Index(1)");
        dueReport("a throw replaces a RETURN", s, s.resource(back, thrower), 0, 0, "uncaught Index(1)");
        dueReport("a throw after a normal part", s, s.resource(log, thrower), 0, 0, "uncaught Index(1)");
        dueReport("a RETURN replaces a BREAK", s, s.loop(2, s.resource(s.breaks(), back)), 4, 0, "ended 4");
        dueReport("a BREAK replaces a RETURN", s, s.loop(2, s.resource(back, s.breaks())), 4, 0, "ended");
        dueReport("a RETURN stays", s, s.resource(back, log), 4, 0, "ended 4");
        dueLog("a BREAK stays", s, s.loop(2, s.resource(s.breaks(), log)), "1");
        dueLog("closed in turn", s, s.resource(s.resource(s.log(0), s.log(5)), s.log(6)), "0 5 6");
    }

    private static void divisions() {
        Scene s = new Scene(2);
        int div = s.div(0, 1);
        int[][] due = {{7, 2, 3}, {-7, 2, -3}, {7, -2, -3}, {-7, -2, 3}, {0, 5, 0}, {Integer.MIN_VALUE, -1, Integer.MIN_VALUE},
            {Integer.MIN_VALUE, 1, Integer.MIN_VALUE}, {Integer.MAX_VALUE, -1, -Integer.MAX_VALUE}};
        for (int[] row : due) {
            Due.due("DIV outcome", s.runs(div, row[0], row[1]), ThrowScenario.ENDED);
            Due.due("DIV " + row[0] + " by " + row[1], s.x.variable(0), row[2]);
            Due.due("DIV leaves the divisor", s.x.variable(1), row[1]);
        }
        dueReport("DIV by 0", s, div, 7, 0, "uncaught Arithmetic(0)");
        Due.due("leaves the variable", s.x.variable(0), 7);
        s.runs(s.div(1, 1), 0, -6);
        Due.due("DIV by itself", s.x.variable(1), 1);
        s.runs(s.sequence(div, s.log(1)), 6, 3);
        Due.dueText("DIV completes normally", s.logText(), "1");
    }

    private static void indexes() {
        Scene s = new Scene(2);
        for (int places = 0; places <= 4; places++) {
            int node = s.index(1, places);
            int[] tried = {Integer.MIN_VALUE, -1, 0, 1, 2, 3, 4, 5, Integer.MAX_VALUE};
            for (int place : tried) {
                String want = place >= 0 && place < places ? "ended" : "uncaught Index(" + place + ")";
                dueReport("INDEX " + place + " of " + places, s, node, 0, place, want);
            }
        }
        dueLog("INDEX completes normally", s, s.sequence(s.index(0, 1), s.log(1)), "1");
    }

    private static void casts() {
        Scene s = new Scene(2);
        s.x.declare(Scene.CAST);
        int thrower = s.throwing(10, 1);
        int[] fine = {10, Scene.CAST, Scene.RUNTIME, Scene.EXCEPTION, Scene.THROWABLE};
        for (int type : fine) {
            dueReport("CAST to " + type, s, s.tryCatch(thrower, 0, s.cast(type)), 0, 0, "ended");
        }
        int[] wrong = {Scene.NULL, Scene.ERROR, Scene.DEPTH, Scene.INDEX};
        for (int type : wrong) {
            dueReport("CAST to " + type, s, s.tryCatch(thrower, 0, s.cast(type)), 0, 0, "uncaught Cast(10)");
        }
        dueReport("CAST of a parent to a child", s, s.tryCatch(s.throwing(Scene.CAST, 1), 0, s.cast(10)), 0, 0, "uncaught Cast(4)");
        dueReport("CAST of none", s, s.cast(Scene.NULL), 0, 0, "ended");
    }

    private static void monitors() {
        Scene s = new Scene(2);
        int wakeZero = s.wake(0);
        int wakeOne = s.wake(1);
        dueReport("NOTIFY without LOCK", s, wakeOne, 0, 0, "uncaught Monitor(1)");
        dueReport("NOTIFY of the other", s, s.lock(0, wakeOne), 0, 0, "uncaught Monitor(1)");
        dueReport("NOTIFY of the other", s, s.lock(1, wakeZero), 0, 0, "uncaught Monitor(0)");
        dueLog("NOTIFY", s, s.lock(0, s.lock(1, s.sequence(wakeZero, wakeOne))), "100 101");
        int twice = s.lock(0, s.sequence(s.lock(0, wakeZero), wakeZero));
        dueLog("HELD twice, then once", s, twice, "100 100");
        dueReport("left in the end", s, s.sequence(twice, wakeZero), 0, 0, "uncaught Monitor(0)");
        dueReport("left by a throw", s, s.tryCatch(s.lock(0, s.throwing(0, 1)), 0, wakeZero), 0, 0, "uncaught Monitor(0)");
        dueReport("left by a BREAK", s, s.sequence(s.loop(1, s.lock(0, s.breaks())), wakeZero), 0, 0, "uncaught Monitor(0)");
        s.routine(1, s.lock(0, s.returns(0)));
        dueReport("left by a RETURN", s, s.sequence(s.call(1), wakeZero), 0, 0, "uncaught Monitor(0)");
        s.routine(1, wakeZero);
        dueLog("HELD in a CALLED routine", s, s.lock(0, s.call(1)), "100");
        dueReport("LOCK completes as its part", s, s.lock(1, s.returns(0)), 8, 0, "ended 8");
    }

    private static void origins() {
        Scene s = new Scene(2);
        s.x.declare(0);
        dueLog("ORIGIN of none", s, s.origin(), "");
        dueLog("ORIGIN of one without cause", s, s.tryCatch(s.throwing(10, 1), 0, s.origin()), "10");
        int wrapped = s.tryCatch(s.throwing(10, 1), 0, s.wrap(Scene.NULL, 2));
        int twice = s.tryCatch(wrapped, 0, s.wrap(Scene.ERROR, 3));
        dueLog("ORIGIN of a chain", s, s.tryCatch(twice, Scene.ERROR, s.origin()), "10");
    }
}
