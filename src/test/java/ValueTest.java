/** Promise 8: value. */
public final class ValueTest {
    private static final String SECTION = "Promise 8: value";
    private static final int MIN = Integer.MIN_VALUE;
    private static final int MAX = Integer.MAX_VALUE;

    public static void main(String[] args) {
        returned();
        takenWhenItReturns();
        status();
        elseNone();
        noneBefore();
        Due.finish();
    }

    private static void dueValue(String name, Scene s, int node, int a, int b, long want) {
        s.runs(node, a, b);
        Due.due(name + ", value()", s.x.value(), want);
    }

    private static void returned() {
        Due.by(SECTION, "The value that the last run's routine RETURNED");
        Scene s = new Scene(2);
        int[] numbers = {MIN, -1, 0, 1, 42, MAX};
        for (int number : numbers) {
            dueValue("RETURN of " + number, s, s.returns(1), 5, number, number);
        }
        dueValue("RETURN of variable 3", s, s.sequence(s.set(3, 8), s.returns(3)), 5, 6, 8);
        dueValue("RETURN out of a LOOP", s, s.loop(3, s.returns(0)), 5, 6, 5);
    }

    private static void takenWhenItReturns() {
        Due.by(SECTION, "The value that the last run's routine RETURNED");
        Scene s = new Scene(2);
        int back = s.returns(0);
        s.routine(1, s.returns(1));
        dueValue("a later SET", s, s.atLast(back, s.set(0, 99)), 5, 6, 5);
        dueValue("a RETURN of a call in a second part of 14", s, s.atLast(back, s.call(1)), 5, 6, 5);
        dueValue("a RETURN of a call in a second part of 15", s, s.resource(back, s.call(1)), 5, 6, 5);
        dueValue("a RETURN in a second part of 14", s, s.atLast(back, s.returns(1)), 5, 6, 6);
        dueValue("a RETURN in a second part of 15", s, s.resource(back, s.returns(1)), 5, 6, 6);
        dueValue("a RETURN instead of a throw", s, s.atLast(s.throwing(0, 1), s.returns(1)), 5, 6, 6);
        dueValue("a BREAK instead of a RETURN", s, s.atLast(back, s.breaks()), 5, 6, ThrowScenario.NONE);
    }

    private static void status() {
        Due.by(SECTION, "its STATUS if it EXITED");
        Scene s = new Scene(2);
        int out = s.exit(0);
        int[][] statuses = {{0, 0}, {255, 255}, {256, 0}, {300, 44}, {-1, 255}, {-256, 0}, {MIN, 0}, {MAX, 255}};
        for (int[] row : statuses) {
            dueValue("EXIT with " + row[0], s, out, row[0], 6, row[1]);
        }
        s.routine(1, out);
        dueValue("EXIT in a called routine", s, s.call(1), 258, 6, 2);
        dueValue("EXIT instead of a RETURN", s, s.atLast(s.returns(1), out), 9, 6, 9);
        s.x.dispatch(1);
        dueValue("EXIT of the dispatched routine", s, s.throwing(0, 1), 9, 6, 9);
    }

    private static void elseNone() {
        Due.by(SECTION, "else NONE.");
        Scene s = new Scene(2);
        int back = s.returns(0);
        dueValue("RETURN", s, back, 5, 6, 5);
        dueValue("normally", s, s.log(1), 5, 6, ThrowScenario.NONE);
        dueValue("by BREAK", s, s.breaks(), 5, 6, ThrowScenario.NONE);
        dueValue("by THROWING", s, s.throwing(0, 1), 5, 6, ThrowScenario.NONE);
        dueValue("TIRED", s, s.endless(2), 5, 6, ThrowScenario.NONE);
        s.routine(1, back);
        dueValue("a RETURN of a called routine", s, s.call(1), 5, 6, ThrowScenario.NONE);
        s.x.dispatch(1);
        dueValue("a RETURN of the dispatched routine", s, s.throwing(0, 1), 5, 6, ThrowScenario.NONE);
        s.routine(1, s.rethrow());
        dueValue("HANDLER_THREW", s, s.throwing(0, 1), 5, 6, ThrowScenario.NONE);
    }

    private static void noneBefore() {
        Due.by(SECTION, "else NONE.");
        Scene s = new Scene(2);
        Due.due("value() of a new object", s.x.value(), ThrowScenario.NONE);
        s.x.run(0, 5, 6);
        Due.due("value() after a refused run", s.x.value(), ThrowScenario.NONE);
        s.runs(s.returns(0), 5, 6);
        s.x.run(1, 7, 8);
        Due.due("value() after a run and a refused one", s.x.value(), 5);
    }
}
