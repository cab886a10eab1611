/** Promise 13: count. */
public final class CountTest {
    public static void main(String[] args) {
        classesAndNodes();
        wrongWhat();
        ofTheLastRun();
        notBegunNotCounted();
        Due.finish();
    }

    private static void dueCounts(String name, Scene s, int... due) {
        for (int i = 0; i < due.length; i++) {
            Due.due(name + ": count(" + (i + 2) + ")", s.x.count(i + 2), due[i]);
        }
    }

    private static void classesAndNodes() {
        ThrowScenario x = new ThrowScenario(1);
        for (int i = 0; i < 8; i++) {
            Due.due("count(0)", x.count(0), 10 + Math.min(i, 6));
            x.declare(0);
        }
        for (int i = 0; i < 66; i++) {
            Due.due("count(1)", x.count(1), Math.min(i, 64));
            x.node(7, 0, 0, 0);
        }
    }

    private static void wrongWhat() {
        ThrowScenario x = new ThrowScenario(1);
        int[] wrong = {-1, 10, 11, Integer.MIN_VALUE, Integer.MAX_VALUE};
        for (int what : wrong) {
            Due.due("count(" + what + ")", x.count(what), ThrowScenario.REFUSED);
        }
    }

    private static void ofTheLastRun() {
        Scene s = new Scene(4);
        int log = s.log(1);
        int thrower = s.throwing(Scene.ERROR, 1);
        s.runs(log);
        dueCounts("LOG", s, 1, 0, 0, 0, 1, 1, 0, 0);
        s.runs(s.tryCatch(thrower, Scene.ERROR, s.sequence(log, s.rethrow())));
        dueCounts("TRY", s, 5, 1, 1, 0, 1, 1, 0, 0);
        s.runs(s.tryCatch(thrower, Scene.EXCEPTION, log));
        dueCounts("TRY that does not catch", s, 2, 1, 0, 0, 1, 0, 0, 0);
        s.runs(s.loop(3, s.atLast(s.resource(log, log), s.tryCatch(thrower, 0, log))));
        dueCounts("LOOP", s, 1 + 3 * 7, 3, 3, 6, 1, 9, 0, 0);
        s.routine(1, s.call(2));
        s.routine(2, s.rethrow());
        s.runs(s.tryCatch(s.call(1), Scene.NULL, s.call(5)));
        dueCounts("CALL", s, 5, 1, 1, 0, 3, 0, 0, 0);
        s.runs(s.lock(0, s.lock(0, s.lock(1, s.exit(0)))));
        dueCounts("LOCK", s, 4, 0, 0, 0, 1, 0, 2, 1);
        s.x.run(5, 0, 0);
        dueCounts("refused", s, 4, 0, 0, 0, 1, 0, 2, 1);
        s.runs(s.lock(0, s.lock(1, s.throwing(0, 0))));
        dueCounts("LOCK that is left", s, 3, 1, 0, 0, 1, 0, 0, 0);
        s.runs(s.choose(0, log, Scene.NOTHING));
        dueCounts("IF with nothing", s, 1, 0, 0, 0, 1, 0, 0, 0);
        s.x.dispatch(1);
        s.runs(thrower);
        dueCounts("dispatched", s, 3, 2, 0, 0, 2, 0, 0, 0);
    }

    private static void notBegunNotCounted() {
        Scene s = new Scene(3);
        int log = s.add(3, 1);
        int filler = s.loop(8, s.loop(8, log));
        int rest = s.loop(8, s.loop(7, log));
        s.routine(1, s.all(filler, filler, filler, rest, s.loop(5, log)));
        s.x.run(1, 0, 0);
        int base = 3 * 73 + 65 + 6 + 4;
        Due.due("nodes of the filler", s.x.count(2), base);
        int call = s.call(1);
        Due.due("filler and CALL", base + 1, 295);
        int thrower = s.throwing(0, 1);
        int full = s.tryCatch(s.sequence(call, s.all(s.log(1), thrower)), 0, log);
        s.runs(full);
        Due.due("the handler would be the 301st: nodes", s.x.count(2), 300);
        Due.due("the handler would be the 301st: handlers", s.x.count(4), 0);
        s.runs(s.tryCatch(s.sequence(call, thrower), 0, log));
        Due.due("the handler is begun", s.x.count(4), 1);
        s.runs(s.atLast(s.sequence(call, s.all(s.log(1), thrower)), log));
        Due.due("the second part of 14 would be the 301st", s.x.count(5), 0);
        s.runs(s.resource(s.sequence(call, s.all(s.log(1), thrower)), log));
        Due.due("the second part of 15 would be the 301st", s.x.count(5), 0);
        s.runs(s.resource(s.sequence(call, thrower), log));
        Due.due("the second part of 15 is begun", s.x.count(5), 1);
    }
}
