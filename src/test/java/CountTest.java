/** Promise 13: count. */
public final class CountTest {
    private static final String SECTION = "Promise 13: count";

    public static void main(String[] args) {
        classes();
        nodes();
        before();
        begun();
        made();
        handlers();
        secondParts();
        depth();
        logged();
        held();
        ofTheLastRun();
        elseRefused();
        Due.finish();
    }

    private static void dueCount(String name, Scene s, int what, int node, int want) {
        s.runs(node);
        Due.due(name + ", count(" + what + ")", s.x.count(what), want);
    }

    private static void classes() {
        Due.by(SECTION, "0: classes");
        ThrowScenario x = new ThrowScenario(1);
        for (int i = 0; i <= 8; i++) {
            Due.due("count(0)", x.count(0), 10 + Math.min(i, 6));
            x.declare(0);
        }
    }

    private static void nodes() {
        Due.by(SECTION, "1: nodes");
        ThrowScenario x = new ThrowScenario(1);
        for (int i = 0; i <= 66; i++) {
            Due.due("count(1)", x.count(1), Math.min(i, 64));
            x.node(7, 0, 0, 0);
        }
    }

    private static void before() {
        Due.by(SECTION, "of the last run (0 before)");
        Scene s = new Scene(1);
        s.routine(1, s.log(1));
        s.x.run(0, 1, 2);
        for (int what = 2; what <= 9; what++) {
            Due.due("count(" + what + ") before a run", s.x.count(what), 0);
        }
    }

    private static void begun() {
        Due.by(SECTION, "2: nodes begun");
        Scene s = new Scene(2);
        int log = s.log(1);
        dueCount("one", s, 2, log, 1);
        dueCount("IF with nothing", s, 2, s.choose(0, log, Scene.NOTHING), 1);
        dueCount("LOOP", s, 2, s.loop(8, log), 9);
        dueCount("a part that is not done", s, 2, s.sequence(s.breaks(), log), 2);
        s.routine(1, log);
        dueCount("CALL", s, 2, s.call(1), 2);
        dueCount("CALL of none", s, 2, s.call(4), 1);
        s.x.dispatch(1);
        dueCount("dispatched", s, 2, s.throwing(0, 0), 2);
        dueCount("300", s, 2, s.begunAs(300, log), 300);
        dueCount("301", s, 2, s.begunAs(300, s.loop(1, log)), 300);
    }

    private static void made() {
        Due.by(SECTION, "3: THROWABLES made");
        Scene s = new Scene(1);
        int thrower = s.throwing(0, 0);
        int log = s.log(1);
        dueCount("none", s, 3, log, 0);
        dueCount("caught", s, 3, s.tryCatch(thrower, 0, log), 1);
        dueCount("RETHROW", s, 3, s.tryCatch(thrower, 0, s.rethrow()), 1);
        dueCount("RETHROW of none", s, 3, s.rethrow(), 1);
        dueCount("WRAP", s, 3, s.tryCatch(thrower, 0, s.wrap(0, 0)), 2);
        dueCount("suppressed", s, 3, s.resource(thrower, thrower), 2);
        dueCount("replaced", s, 3, s.atLast(thrower, thrower), 2);
        dueCount("DIV", s, 3, s.div(0, 0), 1);
        dueCount("INDEX", s, 3, s.index(0, 0), 1);
        dueCount("CAST", s, 3, s.tryCatch(thrower, 0, s.cast(1)), 2);
        dueCount("CAST that fits", s, 3, s.tryCatch(thrower, 0, s.cast(0)), 1);
        dueCount("NOTIFY", s, 3, s.wake(0), 1);
        dueCount("a CALL too deep", s, 3, s.call(0), 1);
        int tree = thrower;
        for (int level = 2; level <= 8; level++) {
            tree = s.resource(tree, tree);
            dueCount("a tree of LEVEL " + level, s, 3, tree, 1 << level - 1);
            Due.due("what its first suppressed", s.x.failure(0, 2), level - 1);
        }
    }

    private static void handlers() {
        Due.by(SECTION, "4: handlers c of 13 begun");
        Scene s = new Scene(2);
        int thrower = s.throwing(Scene.ERROR, 0);
        int log = s.log(1);
        dueCount("nothing thrown", s, 4, s.tryCatch(log, 0, log), 0);
        dueCount("not caught", s, 4, s.tryCatch(thrower, Scene.EXCEPTION, log), 0);
        int caught = s.tryCatch(thrower, 0, log);
        dueCount("caught", s, 4, caught, 1);
        dueCount("three times", s, 4, s.loop(3, caught), 3);
        dueCount("one in the other", s, 4, s.tryCatch(thrower, 0, s.tryCatch(thrower, 0, log)), 2);
        s.x.dispatch(1);
        s.routine(1, log);
        dueCount("a dispatched routine is none", s, 4, thrower, 0);
        dueCount("the 300th node", s, 4, s.begunAs(298, caught), 1);
        dueCount("the 301st is not begun", s, 4, s.begunAs(299, caught), 0);
    }

    private static void secondParts() {
        Due.by(SECTION, "5: second parts b of 14 and 15 begun");
        Scene s = new Scene(2);
        int log = s.log(1);
        int atLast = s.atLast(log, log);
        int closed = s.resource(log, log);
        dueCount("none", s, 5, s.sequence(log, log), 0);
        dueCount("14", s, 5, atLast, 1);
        dueCount("15", s, 5, closed, 1);
        dueCount("both, three times", s, 5, s.loop(3, s.sequence(atLast, closed)), 6);
        dueCount("one in the other", s, 5, s.atLast(s.atLast(s.throwing(0, 0), log), closed), 3);
        dueCount("after an EXIT", s, 5, s.atLast(s.exit(0), log), 0);
        dueCount("14 by the 300th node", s, 5, s.begunAs(298, atLast), 1);
        dueCount("15 by the 300th node", s, 5, s.begunAs(298, closed), 1);
        Scene t = new Scene(2);
        dueCount("14 by the 301st, not begun", t, 5, t.begunAs(299, t.atLast(t.set(0, 0), t.set(0, 0))), 0);
        dueCount("15 by the 301st, not begun", t, 5, t.begunAs(299, t.resource(t.set(0, 0), t.set(0, 0))), 0);
    }

    private static void depth() {
        Due.by(SECTION, "6: the greatest depth");
        Scene s = new Scene(12);
        dueCount("one", s, 6, s.log(1), 1);
        dueCount("the greatest", s, 6, s.call(0), 12);
        s.routine(1, s.log(1));
        s.routine(2, s.call(1));
        dueCount("three", s, 6, s.call(2), 3);
        dueCount("three, then two", s, 6, s.sequence(s.call(2), s.call(1)), 3);
        dueCount("a CALL of none", s, 6, s.call(4), 1);
        Scene t = new Scene(1);
        dueCount("a CALL too deep", t, 6, t.call(0), 1);
        Scene u = new Scene(4);
        u.routine(1, u.log(1));
        u.routine(2, u.call(1));
        dueCount("a CALLED statement as the 301st, not begun", u, 6, u.begunAs(299, u.call(2)), 2);
        dueCount("a CALLED statement as the 300th", u, 6, u.begunAs(298, u.call(2)), 3);
        u.x.dispatch(2);
        dueCount("in the dispatched routine", u, 6, u.throwing(0, 0), 2);
    }

    private static void logged() {
        Due.by(SECTION, "7: ints logged");
        Scene s = new Scene(1);
        dueCount("none", s, 7, s.set(0, 1), 0);
        dueCount("LOG and SHOW", s, 7, s.sequence(s.log(0), s.show(0)), 2);
        dueCount("NOTIFY", s, 7, s.lock(0, s.wake(0)), 1);
        dueCount("NOTIFY that throws", s, 7, s.wake(0), 0);
        dueCount("ORIGIN", s, 7, s.tryCatch(s.throwing(0, 0), 0, s.origin()), 1);
        dueCount("ORIGIN of none", s, 7, s.origin(), 0);
        dueCount("many", s, 7, s.loop(8, s.loop(8, s.loop(8, s.log(0)))), 261);
    }

    private static void held() {
        Due.by(SECTION, "8 and 9: how often monitor what - 8 is HELD at its end.");
        Scene s = new Scene(1);
        s.runs(s.lock(0, s.lock(0, s.lock(1, s.exit(0)))));
        Due.due("EXIT, count(8)", s.x.count(8), 2);
        Due.due("EXIT, count(9)", s.x.count(9), 1);
        s.runs(s.lock(1, s.lock(1, s.endless(2))));
        Due.due("tired, count(8)", s.x.count(8), 0);
        Due.due("tired, count(9)", s.x.count(9), 2);
        s.runs(s.lock(0, s.lock(1, s.throwing(0, 0))));
        Due.due("thrown, count(8)", s.x.count(8), 0);
        Due.due("thrown, count(9)", s.x.count(9), 0);
        s.runs(s.sequence(s.lock(0, s.log(1)), s.lock(1, s.exit(0))));
        Due.due("one after the other, count(8)", s.x.count(8), 0);
        Due.due("one after the other, count(9)", s.x.count(9), 1);
    }

    private static void ofTheLastRun() {
        Due.by(SECTION, "of the last run");
        Scene s = new Scene(2);
        int log = s.log(1);
        int thrower = s.throwing(Scene.ERROR, 1);
        s.routine(1, s.tryCatch(thrower, 0, s.atLast(log, s.lock(1, s.lock(0, s.exit(0))))));
        int[][] due = {{8, 1, 1, 1, 2, 1, 1, 1}, {1, 0, 0, 0, 1, 1, 0, 0}};
        s.runs(s.call(1));
        for (int what = 2; what <= 9; what++) {
            Due.due("all of them, count(" + what + ")", s.x.count(what), due[0][what - 2]);
        }
        s.x.run(5, 0, 0);
        for (int what = 2; what <= 9; what++) {
            Due.due("after a refused run, count(" + what + ")", s.x.count(what), due[0][what - 2]);
        }
        s.runs(log);
        for (int what = 2; what <= 9; what++) {
            Due.due("of the next run, count(" + what + ")", s.x.count(what), due[1][what - 2]);
        }
    }

    private static void elseRefused() {
        Due.by(SECTION, "Else REFUSED.");
        Scene s = new Scene(1);
        int[] wrong = {Integer.MIN_VALUE, -2, -1, 10, 11, Integer.MAX_VALUE};
        for (int what : wrong) {
            Due.due("count(" + what + ") before a run", s.x.count(what), ThrowScenario.REFUSED);
        }
        s.runs(s.log(1));
        for (int what : wrong) {
            Due.due("count(" + what + ") after a run", s.x.count(what), ThrowScenario.REFUSED);
        }
    }
}
