/** Promise 12: report, its text and how it is cut. */
public final class ReportTest {
    public static void main(String[] args) {
        words();
        names();
        chains();
        cut();
        characters();
        Due.finish();
    }

    private static void dueReport(Scene s, int node, int a, String want) {
        s.runs(node, a, 0);
        Due.dueText("report", s.reportText(), want);
    }

    private static void words() {
        Scene s = new Scene(2);
        int thrower = s.throwing(Scene.RUNTIME, 0);
        dueReport(s, s.log(1), 0, "ended");
        dueReport(s, s.breaks(), 0, "ended");
        dueReport(s, s.returns(0), 0, "ended 0");
        dueReport(s, s.returns(0), Integer.MIN_VALUE, "ended -2147483648");
        dueReport(s, s.returns(0), Integer.MAX_VALUE, "ended 2147483647");
        dueReport(s, s.exit(0), -1, "exit 255");
        dueReport(s, s.exit(0), 0, "exit 0");
        dueReport(s, s.loop(8, s.loop(8, s.loop(8, s.log(1)))), 0, "tired");
        dueReport(s, thrower, 0, "uncaught Runtime(0)");
        s.x.dispatch(1);
        s.routine(1, s.returns(0));
        dueReport(s, thrower, 7, "dispatched Runtime(0)");
        s.routine(1, s.exit(0));
        dueReport(s, thrower, 7, "exit 7 Runtime(0)");
        s.routine(1, s.throwing(Scene.NULL, -1));
        dueReport(s, thrower, 7, "handler threw Runtime(0) then Null(-1)");
        s.routine(1, s.wrap(Scene.NULL, -1));
        dueReport(s, thrower, 7, "handler threw Runtime(0) then Null(-1)");
    }

    private static void names() {
        String[] due = {"Throwable", "Null", "Arithmetic", "Index", "Cast", "Depth", "Monitor", "Runtime", "Error", "Exception",
            "Own10", "Own11", "Own12", "Own13", "Own14", "Own15"};
        Scene s = new Scene(2);
        for (int type = 0; type < 16; type++) {
            if (type >= 10) {
                s.x.declare(type - 10);
            }
            dueReport(s, s.throwing(type, type * 100), 0, "uncaught " + due[type] + "(" + type * 100 + ")");
        }
        dueReport(s, s.throwing(0, Integer.MIN_VALUE), 0, "uncaught Throwable(-2147483648)");
        dueReport(s, s.throwing(0, Integer.MAX_VALUE), 0, "uncaught Throwable(2147483647)");
        dueReport(s, s.throwing(0, -10), 0, "uncaught Throwable(-10)");
    }

    private static void chains() {
        Scene s = new Scene(2);
        s.x.declare(Scene.ERROR);
        int thrower = s.throwing(10, 1);
        int closed = s.resource(s.resource(thrower, s.rethrow()), s.rethrow());
        int wrapped = s.tryCatch(closed, Scene.ERROR, s.wrap(Scene.INDEX, 2));
        dueReport(s, wrapped, 0, "uncaught Index(2) from Own10(1)+2");
        int twice = s.tryCatch(wrapped, Scene.INDEX, s.wrap(Scene.CAST, 3));
        dueReport(s, twice, 0, "uncaught Cast(3) from Index(2) from Own10(1)+2");
        s.x.dispatch(1);
        s.routine(1, s.resource(s.wrap(Scene.ARITHMETIC, 4), s.rethrow()));
        dueReport(s, wrapped, 0, "handler threw Index(2) from Own10(1)+2 then Arithmetic(4)+1");
        int eleven = s.throwing(0, 5);
        for (int i = 0; i < 6; i++) {
            eleven = s.resource(eleven, thrower);
        }
        s.x.dispatch(-1);
        s.routine(2, eleven);
        int again = s.resource(s.resource(s.rethrow(), thrower), thrower);
        again = s.resource(s.resource(again, thrower), thrower);
        dueReport(s, s.tryCatch(s.call(2), 0, again), 0, "uncaught Throwable(5)+10");
    }

    /** A chain of five that is as long as its last one's message makes it. */
    private static void dueLength(int lastMessage, String end, int length) {
        Scene s = new Scene(2);
        int node = s.throwing(Scene.ERROR, lastMessage);
        for (int i = 0; i < 4; i++) {
            node = s.tryCatch(node, 0, s.wrap(Scene.EXCEPTION, i == 0 ? 1000 : 1000000000));
        }
        s.runs(node);
        String one = "Exception(1000000000)";
        String whole = "uncaught " + one + " from " + one + " from " + one + " from Exception(1000) from Error(" + lastMessage + ")";
        Due.due("length of the whole is as meant", whole.length(), length);
        Due.dueText("report of " + length, s.reportText(), whole.substring(0, Math.min(120, length)));
        Due.due("its length", s.x.report(-1), Math.min(120, length));
        Due.due("its end", s.reportText().endsWith(end) ? 1 : 0, 1);
        Due.due("report(119)", s.x.report(119), length >= 120 ? end.charAt(end.length() - 1) : ThrowScenario.REFUSED);
        Due.due("report(120)", s.x.report(120), ThrowScenario.REFUSED);
    }

    private static void cut() {
        dueLength(1, "Error(1)", 119);
        dueLength(12, "Error(12)", 120);
        dueLength(123, "Error(123", 121);
        dueLength(1234567, "Error(123", 125);
    }

    private static void characters() {
        Scene s = new Scene(2);
        s.runs(s.log(1));
        Due.due("report(-1)", s.x.report(-1), 5);
        Due.due("report(0)", s.x.report(0), 'e');
        Due.due("report(4)", s.x.report(4), 'd');
        int[] wrong = {5, 6, 119, 120, -2, Integer.MIN_VALUE, Integer.MAX_VALUE};
        for (int i : wrong) {
            Due.due("report(" + i + ")", s.x.report(i), ThrowScenario.REFUSED);
        }
        s.x.run(4, 0, 0);
        Due.dueText("after a refused run", s.reportText(), "ended");
        s.runs(s.throwing(Scene.ARITHMETIC, 12345));
        s.runs(s.log(1));
        Due.dueText("a shorter one after a longer one", s.reportText(), "ended");
    }
}
