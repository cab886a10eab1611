/** Promise 1: a new object. */
public final class NewObjectTest {
    private static final String SECTION = "Promise 1: A new object";

    public static void main(String[] args) {
        limitIsClamped();
        noOwnClasses();
        noNodes();
        noRoutines();
        nothingDispatchedTo();
        noRunYet();
        objectsAreApart();
        Due.finish();
    }

    private static void limitIsClamped() {
        Due.by(SECTION, "limit: LIMIT, clamped to 1 .. 12.");
        int[][] limits = {{Integer.MIN_VALUE, 1}, {-1, 1}, {0, 1}, {1, 1}, {2, 2}, {11, 11}, {12, 12}, {13, 12}, {Integer.MAX_VALUE, 12}};
        for (int[] row : limits) {
            Scene s = new Scene(row[0]);
            String name = "limit " + row[0] + ": ";
            Due.due(name + "outcome", s.runs(s.call(0)), ThrowScenario.UNCAUGHT);
            Due.due(name + "class", s.x.failure(0, 0), Scene.DEPTH);
            Due.due(name + "message", s.x.failure(0, 1), row[1]);
            Due.due(name + "greatest depth", s.x.count(6), row[1]);
        }
    }

    private static void noOwnClasses() {
        Due.by(SECTION, "No own classes, nodes and routines");
        Scene s = new Scene(3);
        Due.due("count(0)", s.x.count(0), 10);
        Due.due("declare(10)", s.x.declare(10), ThrowScenario.REFUSED);
        Due.due("node(10, 10, 0, 0)", s.x.node(10, 10, 0, 0), ThrowScenario.REFUSED);
    }

    private static void noNodes() {
        Due.by(SECTION, "No own classes, nodes and routines");
        Scene s = new Scene(3);
        Due.due("count(1)", s.x.count(1), 0);
        Due.due("define(0, 0)", s.x.define(0, 0), ThrowScenario.REFUSED);
        Due.due("node(6, 1, 0, 0)", s.x.node(6, 1, 0, 0), ThrowScenario.REFUSED);
    }

    private static void noRoutines() {
        Due.by(SECTION, "No own classes, nodes and routines");
        Scene s = new Scene(3);
        for (int r = -1; r <= 6; r++) {
            Due.due("run(" + r + ")", s.x.run(r, 1, 2), ThrowScenario.REFUSED);
        }
    }

    private static void nothingDispatchedTo() {
        Due.by(SECTION, "nothing dispatched to");
        Scene s = new Scene(3);
        int thrower = s.throwing(Scene.ERROR, 1);
        int log = s.log(1);
        for (int r = 1; r <= 5; r++) {
            s.routine(r, log);
        }
        Due.due("run(0)", s.runs(thrower), ThrowScenario.UNCAUGHT);
    }

    private static void noRunYet() {
        Due.by(SECTION, "no run yet.");
        ThrowScenario x = new ThrowScenario(3);
        for (int what = 2; what <= 9; what++) {
            Due.due("count(" + what + ")", x.count(what), 0);
        }
        for (int v = 0; v <= 3; v++) {
            Due.due("variable(" + v + ")", x.variable(v), 0);
        }
        Due.due("value()", x.value(), ThrowScenario.NONE);
        Due.due("logged(0)", x.logged(0), ThrowScenario.NONE);
        for (int what = 0; what <= 2; what++) {
            Due.due("failure(0, " + what + ")", x.failure(0, what), ThrowScenario.NONE);
            Due.due("second(0, " + what + ")", x.second(0, what), ThrowScenario.NONE);
        }
        Due.due("report(-1)", x.report(-1), 0);
        Due.due("report(0)", x.report(0), ThrowScenario.REFUSED);
    }

    private static void objectsAreApart() {
        Due.by(SECTION, "No own classes, nodes and routines; nothing dispatched to; no run yet.");
        Scene one = new Scene(2);
        Scene other = new Scene(2);
        one.x.declare(0);
        one.x.dispatch(0);
        one.runs(one.throwing(10, 1));
        Due.due("count(0)", other.x.count(0), 10);
        Due.due("count(1)", other.x.count(1), 0);
        Due.due("run(0, 0, 0)", other.x.run(0, 0, 0), ThrowScenario.REFUSED);
        Due.due("report(-1)", other.x.report(-1), 0);
        Due.due("a run that throws", other.runs(other.throwing(0, 1)), ThrowScenario.UNCAUGHT);
    }
}
