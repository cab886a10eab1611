/** Promise 1: a new object, and how LIMIT is clamped. */
public final class NewObjectTest {
    public static void main(String[] args) {
        nothingIsThere();
        limitIsClamped();
        objectsAreApart();
        Due.finish();
    }

    private static void nothingIsThere() {
        ThrowScenario x = new ThrowScenario(3);
        Due.due("new: count(0)", x.count(0), 10);
        for (int what = 1; what <= 9; what++) {
            Due.due("new: count(" + what + ")", x.count(what), 0);
        }
        for (int r = -1; r <= 6; r++) {
            Due.due("new: run(" + r + ")", x.run(r, 1, 2), ThrowScenario.REFUSED);
        }
        for (int v = 0; v < 4; v++) {
            Due.due("new: variable(" + v + ")", x.variable(v), 0);
        }
        Due.due("new: value()", x.value(), ThrowScenario.NONE);
        Due.due("new: logged(0)", x.logged(0), ThrowScenario.NONE);
        Due.due("new: failure(0, 0)", x.failure(0, 0), ThrowScenario.NONE);
        Due.due("new: second(0, 0)", x.second(0, 0), ThrowScenario.NONE);
        Due.due("new: report(-1)", x.report(-1), 0);
        Due.due("new: report(0)", x.report(0), ThrowScenario.REFUSED);
        Due.due("new: define(0, 0)", x.define(0, 0), ThrowScenario.REFUSED);
        Due.due("new: declare(10)", x.declare(10), ThrowScenario.REFUSED);
        Scene s = new Scene(3);
        Due.due("new: nothing dispatched to", s.runs(s.throwing(Scene.ERROR, 1)), ThrowScenario.UNCAUGHT);
    }

    private static void limitIsClamped() {
        int[][] limits = {{Integer.MIN_VALUE, 1}, {-1, 1}, {0, 1}, {1, 1}, {2, 2}, {11, 11}, {12, 12}, {13, 12}, {Integer.MAX_VALUE, 12}};
        for (int[] row : limits) {
            Scene s = new Scene(row[0]);
            String name = "limit " + row[0] + ": ";
            Due.due(name + "outcome", s.runs(s.call(0)), ThrowScenario.UNCAUGHT);
            Due.due(name + "class", s.x.failure(0, 0), Scene.DEPTH);
            Due.due(name + "message", s.x.failure(0, 1), row[1]);
            Due.due(name + "greatest depth", s.x.count(6), row[1]);
        }
    }

    private static void objectsAreApart() {
        Scene one = new Scene(2);
        Scene other = new Scene(2);
        one.x.declare(0);
        one.runs(one.throwing(10, 1));
        Due.due("apart: count(0)", other.x.count(0), 10);
        Due.due("apart: count(1)", other.x.count(1), 0);
        Due.due("apart: run", other.x.run(0, 0, 0), ThrowScenario.REFUSED);
        Due.due("apart: report(-1)", other.x.report(-1), 0);
    }
}
