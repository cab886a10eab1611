/** Promise 8: value. */
public final class ValueTest {
    public static void main(String[] args) {
        Scene s = new Scene(3);
        int back = s.returns(0);
        s.runs(back, 42, 0);
        Due.due("RETURN", s.x.value(), 42);
        s.runs(back, Integer.MIN_VALUE, 0);
        Due.due("RETURN of the least", s.x.value(), Integer.MIN_VALUE);
        s.runs(s.log(1));
        Due.due("normally", s.x.value(), ThrowScenario.NONE);
        s.runs(back);
        Due.due("RETURN of 0", s.x.value(), 0);
        s.runs(s.throwing(0, 1));
        Due.due("by THROWING", s.x.value(), ThrowScenario.NONE);
        s.runs(s.breaks());
        Due.due("by BREAK", s.x.value(), ThrowScenario.NONE);
        s.routine(1, back);
        s.runs(s.call(1), 3, 0);
        Due.due("RETURN of a called routine alone", s.x.value(), ThrowScenario.NONE);
        exits(s);
        valueIsTakenWhenItReturns(s);
        Due.finish();
    }

    private static void exits(Scene s) {
        int out = s.exit(0);
        int[][] statuses = {{0, 0}, {255, 255}, {256, 0}, {300, 44}, {-1, 255}, {-256, 0}, {Integer.MIN_VALUE, 0}, {Integer.MAX_VALUE, 255}};
        for (int[] row : statuses) {
            s.runs(out, row[0], 0);
            Due.due("EXIT with " + row[0], s.x.value(), row[1]);
        }
        s.x.dispatch(2);
        s.routine(2, out);
        s.runs(s.throwing(0, 1), 9, 0);
        Due.due("EXIT of the dispatched routine", s.x.value(), 9);
        s.routine(2, s.returns(0));
        s.runs(s.throwing(0, 1), 9, 0);
        Due.due("RETURN of the dispatched routine", s.x.value(), ThrowScenario.NONE);
        s.x.dispatch(-1);
    }

    private static void valueIsTakenWhenItReturns(Scene s) {
        int back = s.returns(0);
        s.runs(s.atLast(back, s.set(0, 99)), 5, 6);
        Due.due("a later SET", s.x.value(), 5);
        s.routine(1, s.returns(1));
        s.runs(s.atLast(back, s.call(1)), 5, 6);
        Due.due("a RETURN of a call in the second part", s.x.value(), 5);
        Due.due("which set variable 0", s.x.variable(0), 6);
        s.runs(s.resource(back, s.call(1)), 5, 6);
        Due.due("a RETURN of a call while closing", s.x.value(), 5);
        s.runs(s.atLast(back, s.returns(1)), 5, 6);
        Due.due("a RETURN in the second part", s.x.value(), 6);
        s.runs(s.resource(back, s.returns(1)), 5, 6);
        Due.due("a RETURN while closing", s.x.value(), 6);
        s.runs(s.atLast(s.throwing(0, 1), s.returns(1)), 5, 6);
        Due.due("a RETURN instead of a throw", s.x.value(), 6);
    }
}
