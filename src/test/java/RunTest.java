/** Promise 6: run, what it begins with and its outcome. */
public final class RunTest {
    public static void main(String[] args) {
        refusals();
        whatItBeginsWith();
        outcomes();
        tired();
        exit();
        Due.finish();
    }

    private static void refusals() {
        Scene s = new Scene(2);
        s.runs(s.all(s.log(3), s.lock(1, s.exit(1))), 7, 9);
        int[] wrong = {-1, 1, 5, 6, Integer.MIN_VALUE, Integer.MAX_VALUE};
        for (int r : wrong) {
            Due.due("run(" + r + ")", s.x.run(r, 1, 2), ThrowScenario.REFUSED);
        }
        Due.due("variable(0) after refusals", s.x.variable(0), 7);
        Due.due("value() after refusals", s.x.value(), 9);
        Due.due("logged(0) after refusals", s.x.logged(0), 3);
        Due.due("count(9) after refusals", s.x.count(9), 1);
        Due.dueText("report after refusals", s.reportText(), "exit 9");
    }

    private static void whatItBeginsWith() {
        Scene s = new Scene(2);
        int shows = s.all(s.show(0), s.show(1), s.show(2), s.show(3));
        int spoils = s.all(s.set(2, 8), s.set(3, 9), s.lock(0, s.lock(1, s.exit(0))));
        s.runs(spoils, 1, 2);
        Due.due("run of the shows", s.runs(shows, Integer.MIN_VALUE, Integer.MAX_VALUE), ThrowScenario.ENDED);
        Due.dueText("the variables", s.logText(), "-2147483648 2147483647 0 0");
        s.runs(spoils, 1, 2);
        Due.due("notify without a lock after a run that kept it", s.runs(s.wake(1)), ThrowScenario.UNCAUGHT);
        Due.dueText("the log", s.logText(), "");
        Due.due("monitor 0", s.x.count(8), 0);
        s.runs(s.log(1));
        Due.due("no failure from the run before", s.x.failure(0, 0), ThrowScenario.NONE);
    }

    private static void outcomes() {
        Scene s = new Scene(2);
        Due.due("normally", s.runs(s.log(1)), ThrowScenario.ENDED);
        Due.due("by BREAK", s.runs(s.breaks()), ThrowScenario.ENDED);
        Due.due("by RETURN", s.runs(s.returns(0)), ThrowScenario.ENDED);
        Due.due("by THROWING", s.runs(s.throwing(0, 0)), ThrowScenario.UNCAUGHT);
        Due.due("by EXIT", s.runs(s.exit(0)), ThrowScenario.EXITED);
        s.x.dispatch(1);
        s.routine(1, s.log(2));
        Due.due("dispatched", s.runs(s.throwing(0, 0)), ThrowScenario.DISPATCHED);
        s.routine(1, s.wrap(0, 0));
        Due.due("handler threw", s.runs(s.throwing(0, 0)), ThrowScenario.HANDLER_THREW);
        Due.due("by EXIT, not dispatched", s.runs(s.exit(0)), ThrowScenario.EXITED);
    }

    private static void tired() {
        Scene s = new Scene(2);
        int seventyThree = s.loop(8, s.loop(8, s.add(0, 1)));
        int nine = s.loop(8, s.add(0, 1));
        int most = s.all(seventyThree, seventyThree, seventyThree, s.loop(7, s.loop(8, s.add(0, 1))), nine);
        s.routine(1, most);
        s.x.run(1, 0, 0);
        Due.due("the LOOPs and the four that join them", s.x.count(2), 3 * 73 + 64 + 9 + 4);
        int one = s.add(1, 1);
        int twoHundredNinetyNine = s.sequence(s.call(1), one);
        Due.due("299 nodes", s.runs(twoHundredNinetyNine), ThrowScenario.ENDED);
        Due.due("299 are begun", s.x.count(2), 299);
        Due.due("300 nodes", s.runs(s.lock(0, twoHundredNinetyNine)), ThrowScenario.ENDED);
        Due.due("300 are begun", s.x.count(2), 300);
        Due.due("the last was done", s.x.variable(1), 1);
        int threeHundredAndOne = s.atLast(s.call(1), s.atLast(one, one));
        Due.due("one node too many", s.runs(threeHundredAndOne), ThrowScenario.TIRED);
        Due.due("300 are begun, the 301st is not", s.x.count(2), 300);
        Due.due("what the 301st would have done is not done", s.x.variable(1), 1);
        Due.due("variables stay as they were", s.x.variable(0), 3 * 64 + 56 + 8);
        Due.due("the closing that was not begun is not counted", s.x.count(5), 1);
        Due.due("value() of a tired run", s.x.value(), ThrowScenario.NONE);
        Due.dueText("report of a tired run", s.reportText(), "tired");
        endsAtOnceWhenTired(s);
    }

    private static void endsAtOnceWhenTired(Scene s) {
        int endless = s.loop(8, s.loop(8, s.loop(8, s.add(0, 1))));
        s.routine(1, s.lock(1, endless));
        int guarded = s.tryCatch(s.call(1), Scene.THROWABLE, s.log(1));
        int closed = s.resource(s.atLast(guarded, s.log(2)), s.log(3));
        Due.due("tired within everything", s.runs(s.loop(3, s.sequence(closed, s.log(4)))), ThrowScenario.TIRED);
        Due.dueText("nothing more is done", s.logText(), "");
        Due.due("the lock is not left", s.x.count(9), 1);
        Due.due("no second part was begun", s.x.count(5), 0);
    }

    private static void exit() {
        Scene s = new Scene(3);
        int exits = s.exit(1);
        s.routine(1, s.lock(0, exits));
        int guarded = s.tryCatch(s.call(1), Scene.THROWABLE, s.log(1));
        int closed = s.resource(s.atLast(guarded, s.log(2)), s.log(3));
        Due.due("EXIT through everything", s.runs(s.loop(3, s.sequence(closed, s.log(4))), 0, -1), ThrowScenario.EXITED);
        Due.dueText("nothing more is done", s.logText(), "");
        Due.due("the lock is not left", s.x.count(8), 1);
        Due.due("STATUS", s.x.value(), 255);
        Due.due("no second part was begun", s.x.count(5), 0);
        Due.due("EXIT in a FINALLY's second part", s.runs(s.atLast(s.throwing(0, 1), exits), 0, 256), ThrowScenario.EXITED);
        Due.due("STATUS of 256", s.x.value(), 0);
        Due.due("EXIT in a closing", s.runs(s.resource(s.throwing(0, 1), exits), 0, 7), ThrowScenario.EXITED);
        Due.dueText("no failure then", s.reportText(), "exit 7");
        Due.due("EXIT in a handler", s.runs(s.tryCatch(s.throwing(0, 1), 0, exits), 0, 8), ThrowScenario.EXITED);
    }
}
