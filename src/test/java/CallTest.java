/** Terms: how a CALL completes, and how deep calls go. */
public final class CallTest {
    public static void main(String[] args) {
        oneDeeper();
        oneDeeperThanEveryPart();
        normallyOrByBreak();
        byReturn();
        byThrowing();
        firstDepth();
        tooDeep();
        notDefined();
        deepest();
        Due.finish();
    }

    private static void oneDeeper() {
        Due.by("Terms", "9: the routine's statement is done one deeper");
        Scene s = new Scene(12);
        int log = s.log(1);
        s.routine(5, log);
        for (int r = 4; r >= 0; r--) {
            s.routine(r, s.call(r + 1));
            s.x.run(r, 0, 0);
            Due.due("calls from routine " + r + ", count(6)", s.x.count(6), 6 - r);
        }
        s.runs(s.sequence(s.call(5), s.call(5)));
        Due.due("one after the other, count(6)", s.x.count(6), 2);
    }

    private static void oneDeeperThanEveryPart() {
        Due.by("Terms", "9: the routine's statement is done one deeper");
        for (String part : Scene.PARTS) {
            Scene s = new Scene(3);
            dueThirdDepth("in " + part, s, s.asPart(part, s.call(2)));
        }
        Scene s = new Scene(3);
        dueThirdDepth("in TRY c", s, s.tryCatch(s.throwing(Scene.CAST, 1), 0, s.call(2)));
    }

    /** The node holds a CALL of routine 2, and is itself done at depth 2. */
    private static void dueThirdDepth(String name, Scene s, int node) {
        int call = s.call(1);
        s.routine(1, node);
        s.routine(2, s.log(7));
        s.dueLog("a CALL " + name, call, "7");
        Due.due("a CALL " + name + ", count(6)", s.x.count(6), 3);
        s.routine(2, s.call(3));
        s.routine(3, s.log(7));
        s.dueReport("a CALL " + name + " that goes on to depth 4", call, "uncaught Depth(3)");
    }

    private static void normallyOrByBreak() {
        Due.by("Terms", "if it completes normally or by BREAK, the CALL does normally");
        Scene s = new Scene(2);
        int call = s.call(1);
        s.routine(1, s.set(2, 7));
        Due.dueText("normally", s.wayOf(call), "normally");
        Due.due("it was done", s.x.variable(2), 7);
        Due.due("variable 0 stays", s.x.variable(0), 5);
        s.routine(1, s.sequence(s.breaks(), s.log(1)));
        Due.dueText("by BREAK", s.wayOf(call), "normally");
        s.dueLog("no LOOP is ended", s.loop(2, s.sequence(call, s.log(7))), "7 7");
    }

    private static void byReturn() {
        Due.by("Terms", "by RETURN: variable 0 becomes the value, the CALL completes normally.");
        Scene s = new Scene(2);
        int call = s.call(1);
        s.routine(1, s.returns(1));
        Due.dueText("by RETURN", s.wayOf(call), "normally");
        Due.due("variable 0", s.x.variable(0), 6);
        s.routine(1, s.loop(3, s.atLast(s.returns(1), s.set(1, 1))));
        Due.dueText("by RETURN out of a LOOP", s.wayOf(call), "normally");
        Due.due("variable 0 is what the value was", s.x.variable(0), 6);
        s.routine(1, s.returns(0));
        s.runs(call, Integer.MIN_VALUE, 0);
        Due.due("the least", s.x.variable(0), Integer.MIN_VALUE);
        s.routine(1, s.returns(2));
        s.runs(call, 5, 5);
        Due.due("the value 0", s.x.variable(0), 0);
    }

    private static void byThrowing() {
        Due.by("Terms", "a part that doesn't complete normally ends the node in that way");
        Scene s = new Scene(2);
        s.routine(1, s.throwing(Scene.CAST, 4));
        Due.dueText("by THROWING", s.wayOf(s.call(1)), "uncaught Cast(4)");
    }

    private static void firstDepth() {
        Due.by("Terms", "The first statement of a run is at depth 1");
        Scene s = new Scene(1);
        int log = s.log(1);
        int thrower = s.throwing(0, 1);
        int[] parts = {log, s.sequence(log, log), s.choose(0, log, log), s.choose(1, log, log), s.loop(2, log), s.tryCatch(thrower, 0, log),
            s.atLast(log, log), s.resource(log, log), s.lock(0, log)};
        for (int node : parts) {
            s.runs(node, 1, 0);
            Due.due("node " + node + " and its parts, count(6)", s.x.count(6), 1);
        }
    }

    private static void tooDeep() {
        Due.by("Terms", "if the CALL's would be deeper than LIMIT, it THROWS instead (class 5, message LIMIT).");
        for (int limit = 1; limit <= 12; limit++) {
            Scene s = new Scene(limit);
            Due.due("LIMIT " + limit, s.runs(s.sequence(s.add(2, 1), s.call(0))), ThrowScenario.UNCAUGHT);
            Due.due("its class", s.x.failure(0, 0), Scene.DEPTH);
            Due.due("its message", s.x.failure(0, 1), limit);
            Due.due("its cause", s.x.failure(1, 0), ThrowScenario.NONE);
            Due.due("depths that were reached", s.x.variable(2), limit);
            Due.due("count(6)", s.x.count(6), limit);
            s.runs(s.tryCatch(s.call(0), Scene.DEPTH, s.add(3, 1)));
            Due.due("caught where it was thrown", s.x.variable(3), 1);
        }
    }

    private static void notDefined() {
        Due.by("Terms", "A routine that is not defined: nothing happens, whatever the depth.");
        for (int limit = 1; limit <= 3; limit++) {
            Scene s = new Scene(limit);
            int none = s.sequence(s.call(5), s.log(3));
            s.dueLog("CALL of none at depth 1", none, "3");
            s.routine(2, none);
            s.routine(1, limit > 2 ? s.call(2) : none);
            s.dueLog("CALL of none at depth LIMIT", limit > 1 ? s.call(1) : none, "3");
            Due.due("none was thrown", s.x.count(3), 0);
            Due.due("count(6)", s.x.count(6), limit);
        }
    }

    /** 12 depths of 8 LEVELs: the most that can be open at once. */
    private static void deepest() {
        Due.by("Terms", "if the CALL's would be deeper than LIMIT, it THROWS instead (class 5, message LIMIT).");
        Scene s = new Scene(12);
        int node = s.call(0);
        for (int level = 2; level <= 8; level++) {
            node = s.atLast(node, s.add(2, 1));
        }
        s.dueReport("12 depths of 8 LEVELs", node, "uncaught Depth(12)");
        Due.due("second parts", s.x.variable(2), 12 * 7);
    }
}
