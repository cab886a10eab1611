/** Promise 7: variable. */
public final class VariableTest {
    public static void main(String[] args) {
        Scene s = new Scene(2);
        s.runs(s.all(s.set(2, -7), s.set(3, Integer.MAX_VALUE), s.add(3, 1), s.add(0, -2)), 5, Integer.MIN_VALUE);
        Due.due("variable(0)", s.x.variable(0), 3);
        Due.due("variable(1)", s.x.variable(1), Integer.MIN_VALUE);
        Due.due("variable(2)", s.x.variable(2), -7);
        Due.due("variable(3) wraps", s.x.variable(3), Integer.MIN_VALUE);
        int[] wrong = {-1, 4, 5, Integer.MIN_VALUE, Integer.MAX_VALUE};
        for (int v : wrong) {
            Due.due("variable(" + v + ")", s.x.variable(v), ThrowScenario.NONE);
        }
        s.runs(s.sequence(s.set(1, 4), s.throwing(0, 0)), 1, 2);
        Due.due("variable(1) after a throw", s.x.variable(1), 4);
        Due.due("variable(2) after the next run", s.x.variable(2), 0);
        s.runs(s.returns(1), 1, 2);
        Due.due("variable(0) after a RETURN of the run's routine", s.x.variable(0), 1);
        s.routine(1, s.returns(1));
        s.runs(s.call(1), 1, 2);
        Due.due("variable(0) after a RETURN of a called one", s.x.variable(0), 2);
        Due.finish();
    }
}
