/** Terms: THE REPORT, the NAME of a THROWABLE, and how the text is cut. */
public final class ReportTextTest {
    private static final int MIN = Integer.MIN_VALUE;
    private static final int MAX = Integer.MAX_VALUE;

    public static void main(String[] args) {
        ended();
        exit();
        outcomes();
        failure();
        chain();
        second();
        words();
        ownClasses();
        suppressed();
        decimal();
        cut();
        cutInTheSecond();
        cutOfTheLongestChain();
        Due.finish();
    }

    private static void ended() {
        Due.by("Terms", "THE REPORT is a text: \"ended\", and for RETURN a blank and the value");
        Scene s = new Scene(2);
        s.dueReport("normally", s.log(1), 5, 6, "ended");
        s.dueReport("by BREAK", s.breaks(), 5, 6, "ended");
        s.dueReport("by RETURN", s.returns(0), 5, 6, "ended 5");
        s.dueReport("by RETURN of 0", s.returns(2), 5, 6, "ended 0");
        s.routine(1, s.returns(0));
        s.dueReport("by a RETURN of a CALLED one", s.call(1), 5, 6, "ended");
    }

    private static void exit() {
        Due.by("Terms", "\"exit\", blank, STATUS");
        Scene s = new Scene(1);
        s.dueReport("STATUS 0", s.exit(0), 256, 0, "exit 0");
        s.dueReport("STATUS 255", s.exit(0), -1, 0, "exit 255");
        s.dueReport("STATUS 10", s.exit(0), 10, 0, "exit 10");
    }

    private static void outcomes() {
        Due.by("Terms", "\"tired\"; \"uncaught\", \"dispatched\" or \"handler threw\".");
        Scene s = new Scene(1);
        int thrower = s.throwing(Scene.RUNTIME, 0);
        s.dueReport("TIRED", s.endless(2), "tired");
        s.dueReport("UNCAUGHT", thrower, "uncaught Runtime(0)");
        s.x.dispatch(1);
        s.routine(1, s.returns(0));
        s.dueReport("DISPATCHED", thrower, 7, 0, "dispatched Runtime(0)");
        s.routine(1, s.throwing(Scene.NULL, -1));
        s.dueReport("HANDLER_THREW", thrower, "handler threw Runtime(0) then Null(-1)");
    }

    private static void failure() {
        Due.by("Terms", "It is followed, if there is a FAILURE, by a blank and its NAME");
        Scene s = new Scene(1);
        int thrower = s.throwing(Scene.RUNTIME, 0);
        s.dueReport("caught", s.tryCatch(thrower, 0, s.log(1)), "ended");
        s.dueReport("on its way", s.atLast(thrower, s.exit(1)), "exit 0");
        s.x.dispatch(1);
        s.routine(1, s.exit(0));
        s.dueReport("EXITED with a FAILURE", thrower, 7, 0, "exit 7 Runtime(0)");
        s.routine(1, s.endless(2));
        s.dueReport("TIRED with a FAILURE", thrower, 7, 0, "tired Runtime(0)");
    }

    private static void chain() {
        Due.by("Terms", "and for each in its cause chain by \" from \" and that one's NAME");
        Scene s = new Scene(1);
        s.x.declare(Scene.ERROR);
        int one = s.throwing(10, 1);
        int wrapped = s.tryCatch(s.resource(one, one), Scene.ERROR, s.wrap(Scene.INDEX, 2));
        s.dueReport("one in it", wrapped, "uncaught Index(2) from Own10(1)+1");
        int twice = s.tryCatch(wrapped, Scene.INDEX, s.wrap(Scene.CAST, 3));
        s.dueReport("two in it", twice, "uncaught Cast(3) from Index(2) from Own10(1)+1");
        s.x.dispatch(1);
        s.routine(1, s.log(1));
        s.dueReport("when DISPATCHED", wrapped, "dispatched Index(2) from Own10(1)+1");
    }

    private static void second() {
        Due.by("Terms", "then, if there is a SECOND, by \" then \" and its NAME.");
        Scene s = new Scene(1);
        int one = s.throwing(Scene.ERROR, 1);
        int wrapped = s.tryCatch(one, 0, s.wrap(Scene.INDEX, 2));
        s.x.dispatch(1);
        s.routine(1, s.resource(s.throwing(Scene.ARITHMETIC, 4), one));
        s.dueReport("without causes", one, "handler threw Error(1) then Arithmetic(4)+1");
        s.dueReport("behind the FAILURE's causes", wrapped, "handler threw Index(2) from Error(1) then Arithmetic(4)+1");
        s.routine(1, s.wrap(Scene.CAST, 5));
        s.dueReport("its own causes are not told", wrapped, "handler threw Index(2) from Error(1) then Cast(5)");
        s.routine(1, wrapped);
        s.dueReport("nor those that are not the FAILURE", one, "handler threw Error(1) then Index(2)");
    }

    private static void words() {
        Due.by("Terms", "NAME: the word of the class above");
        String[] due = {"Throwable", "Null", "Arithmetic", "Index", "Cast", "Depth", "Monitor", "Runtime", "Error", "Exception"};
        Scene s = new Scene(1);
        for (int type = 0; type <= 9; type++) {
            s.dueReport("class " + type, s.throwing(type, type * 100), "uncaught " + due[type] + "(" + type * 100 + ")");
        }
    }

    private static void ownClasses() {
        Due.by("Terms", "for an own class \"Own\" and its number, then \"(\", the message, \")\"");
        Scene s = new Scene(1);
        for (int type = 10; type <= 15; type++) {
            s.x.declare(type - 10);
            s.dueReport("class " + type, s.throwing(type, type), "uncaught Own" + type + "(" + type + ")");
        }
    }

    private static void suppressed() {
        Due.by("Terms", "and if some were suppressed \"+\" and how many.");
        Scene s = new Scene(2);
        int thrower = s.throwing(0, 5);
        s.dueReport("none", thrower, "uncaught Throwable(5)");
        int closed = thrower;
        for (int times = 1; times <= 6; times++) {
            closed = s.resource(closed, thrower);
            s.dueReport(times + " times", closed, "uncaught Throwable(5)+" + times);
        }
        s.routine(1, closed);
        int again = s.resource(s.resource(s.rethrow(), thrower), thrower);
        again = s.resource(again, thrower);
        s.dueReport("9 times", s.tryCatch(s.call(1), 0, again), "uncaught Throwable(5)+9");
        again = s.resource(again, thrower);
        s.dueReport("10 times", s.tryCatch(s.call(1), 0, again), "uncaught Throwable(5)+10");
    }

    private static void decimal() {
        Due.by("Terms", "Numbers are in decimal.");
        int[] numbers = {MIN, -1000000000, -10, -9, -1, 0, 9, 10, 99, 100, 1000000000, MAX};
        for (int number : numbers) {
            Scene s = new Scene(1);
            s.dueReport("a message", s.throwing(0, number), "uncaught Throwable(" + number + ")");
            s.dueReport("a value", s.returns(0), number, 0, "ended " + number);
        }
    }

    /** A chain of five that is as long as its last one's message makes it. */
    private static void dueLength(int lastMessage, String end, int length) {
        Scene s = new Scene(1);
        int node = s.throwing(Scene.ERROR, lastMessage);
        for (int i = 0; i < 4; i++) {
            node = s.tryCatch(node, 0, s.wrap(Scene.EXCEPTION, i == 0 ? 1000 : 1000000000));
        }
        s.runs(node);
        String one = "Exception(1000000000)";
        String whole = "uncaught " + one + " from " + one + " from " + one + " from Exception(1000) from Error(" + lastMessage + ")";
        Due.due("length of the whole is as meant", whole.length(), length);
        Due.dueText("report of " + length, s.reportText(), whole.substring(0, Math.min(120, length)));
        Due.due("its length", s.x.report(-1), Math.min(120, length));
        Due.due("its end", s.reportText().endsWith(end) ? 1 : 0, 1);
        Due.due("report(119)", s.x.report(119), length >= 120 ? end.charAt(end.length() - 1) : ThrowScenario.REFUSED);
        Due.due("report(120)", s.x.report(120), ThrowScenario.REFUSED);
        Due.due("the last of the chain is told whole", s.x.failure(4, 1), lastMessage);
    }

    private static void cut() {
        Due.by("Terms", "The REPORT is cut to 120 characters.");
        dueLength(1, "Error(1)", 119);
        dueLength(12, "Error(12)", 120);
        dueLength(123, "Error(123", 121);
        dueLength(1234567, "Error(123", 125);
    }

    /** A FAILURE with three causes, and a SECOND whose message makes the text as long as told. */
    private static void dueLengthWithSecond(int message, int length) {
        Scene s = new Scene(1);
        int node = s.throwing(Scene.ERROR, 1000);
        for (int i = 0; i < 3; i++) {
            node = s.tryCatch(node, 0, s.wrap(Scene.EXCEPTION, 1000000000));
        }
        s.x.dispatch(1);
        s.routine(1, s.throwing(Scene.CAST, message));
        String one = "Exception(1000000000)";
        String whole = "handler threw " + one + " from " + one + " from " + one + " from Error(1000) then Cast(" + message + ")";
        Due.due("length of the whole is as meant", whole.length(), length);
        s.dueReport("one of " + length, node, whole.substring(0, Math.min(120, length)));
        Due.due("the SECOND is told whole", s.x.second(0, 1), message);
    }

    private static void cutInTheSecond() {
        Due.by("Terms", "The REPORT is cut to 120 characters.");
        dueLengthWithSecond(1, 119);
        dueLengthWithSecond(12, 120);
        dueLengthWithSecond(123, 121);
        dueLengthWithSecond(1234567890, 128);
    }

    private static void cutOfTheLongestChain() {
        Due.by("Terms", "The REPORT is cut to 120 characters.");
        Scene s = new Scene(12);
        int node = s.call(0);
        for (int i = 0; i < 7; i++) {
            node = s.tryCatch(node, 0, s.wrap(Scene.ERROR, 1));
        }
        s.x.dispatch(1);
        s.routine(1, s.rethrow());
        s.runs(node);
        String whole = "handler threw Error(1)" + " from Error(1)".repeat(7);
        Due.due("its length", s.x.report(-1), 120);
        Due.dueText("84 and Depth", s.reportText(), whole.substring(0, 120));
        s.runs(s.log(1));
        Due.dueText("a shorter one after it", s.reportText(), "ended");
    }
}
