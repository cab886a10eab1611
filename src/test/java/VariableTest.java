/** Promise 7: variable. */
public final class VariableTest {
    private static final String SECTION = "Promise 7: variable";
    private static final int MIN = Integer.MIN_VALUE;
    private static final int MAX = Integer.MAX_VALUE;

    public static void main(String[] args) {
        asTheLastRunLeftIt();
        leftByEveryOutcome();
        before();
        outOfRange();
        Due.finish();
    }

    private static void dueVariables(String name, Scene s, int... due) {
        for (int v = 0; v <= 3; v++) {
            Due.due(name + ": variable(" + v + ")", s.x.variable(v), due[v]);
        }
    }

    private static void asTheLastRunLeftIt() {
        Due.by(SECTION, "Variable v 0 .. 3 as the last run left it");
        Scene s = new Scene(2);
        s.runs(s.all(s.set(2, -7), s.set(3, MAX), s.add(3, 1), s.add(0, -2)), 5, MIN);
        dueVariables("set and added", s, 3, MIN, -7, MIN);
        s.runs(s.log(1), MAX, -1);
        dueVariables("the next run", s, MAX, -1, 0, 0);
        s.runs(s.returns(1), 1, 2);
        dueVariables("a RETURN of the run's routine", s, 1, 2, 0, 0);
        s.routine(1, s.returns(1));
        s.runs(s.call(1), 1, 2);
        dueVariables("a RETURN of a called one", s, 2, 2, 0, 0);
    }

    private static void leftByEveryOutcome() {
        Due.by(SECTION, "Variable v 0 .. 3 as the last run left it");
        Scene s = new Scene(2);
        int set = s.set(2, 4);
        s.runs(s.sequence(set, s.throwing(0, 0)), 1, 2);
        dueVariables("UNCAUGHT", s, 1, 2, 4, 0);
        s.runs(s.sequence(set, s.exit(0)), 1, 2);
        dueVariables("EXITED", s, 1, 2, 4, 0);
        s.runs(s.endless(3), 1, 2);
        dueVariables("TIRED", s, 1, 2, 0, 261);
        s.x.dispatch(1);
        s.routine(1, s.add(2, 5));
        s.runs(s.sequence(set, s.throwing(0, 0)), 1, 2);
        dueVariables("DISPATCHED", s, 1, 2, 9, 0);
        s.routine(1, s.sequence(s.add(2, 6), s.rethrow()));
        s.runs(s.sequence(set, s.throwing(0, 0)), 1, 2);
        dueVariables("HANDLER_THREW", s, 1, 2, 10, 0);
    }

    private static void before() {
        Due.by(SECTION, "as the last run left it (0 before)");
        Scene s = new Scene(2);
        dueVariables("a new object", s, 0, 0, 0, 0);
        s.routine(1, s.set(0, 5));
        s.x.run(0, 7, 8);
        dueVariables("after a refused run", s, 0, 0, 0, 0);
    }

    private static void outOfRange() {
        Due.by(SECTION, "NONE out of range.");
        Scene s = new Scene(2);
        int[] wrong = {MIN, -2, -1, 4, 5, MAX};
        for (int v : wrong) {
            Due.due("variable(" + v + ") before a run", s.x.variable(v), ThrowScenario.NONE);
        }
        s.runs(s.log(1), 5, 6);
        for (int v : wrong) {
            Due.due("variable(" + v + ") after a run", s.x.variable(v), ThrowScenario.NONE);
        }
    }
}
