/** Promise 4: define. */
public final class DefineTest {
    private static final String SECTION = "Promise 4: define";

    public static void main(String[] args) {
        everyRoutine();
        fromNowOn();
        callsAreBoundWhenTheyAreDone();
        routineOutOfRange();
        noSuchNode();
        Due.finish();
    }

    private static void everyRoutine() {
        Due.by(SECTION, "Routine r 0 .. 5 is the node's statement");
        Scene s = new Scene(1);
        for (int r = 0; r <= 5; r++) {
            int node = s.log(r);
            Due.due("run(" + r + ") before", s.x.run(r, 0, 0), ThrowScenario.REFUSED);
            Due.due("define(" + r + ", " + node + ")", s.x.define(r, node), 0);
            Due.due("run(" + r + ")", s.x.run(r, 0, 0), ThrowScenario.ENDED);
            Due.due("logged(0)", s.x.logged(0), r);
        }
        for (int r = 0; r <= 5; r++) {
            s.x.run(r, 0, 0);
            Due.due("logged(0) by routine " + r + " of six", s.x.logged(0), r);
        }
    }

    private static void fromNowOn() {
        Due.by(SECTION, "is the node's statement from now on: 0.");
        Scene s = new Scene(1);
        int one = s.log(1);
        int two = s.log(2);
        s.routine(0, one);
        s.x.run(0, 0, 0);
        Due.due("define(0, ..) anew", s.x.define(0, two), 0);
        Due.dueText("the last run's log stays", s.logText(), "1");
        s.x.run(0, 0, 0);
        Due.dueText("the next run's log", s.logText(), "2");
        Due.due("define(0, ..) of node 0", s.x.define(0, 0), 0);
        s.x.run(0, 0, 0);
        Due.dueText("the log of node 0", s.logText(), "1");
    }

    private static void callsAreBoundWhenTheyAreDone() {
        Due.by(SECTION, "is the node's statement from now on");
        Scene s = new Scene(2);
        int call = s.call(1);
        s.dueLog("CALL of an undefined routine", call, "");
        s.routine(1, s.log(7));
        s.dueLog("CALL of a routine defined later", call, "7");
        s.routine(1, s.log(8));
        s.dueLog("CALL of a routine defined anew", call, "8");
    }

    private static void routineOutOfRange() {
        Due.by(SECTION, "r out of range or no such node: REFUSED.");
        Scene s = new Scene(1);
        int node = s.log(1);
        int[] wrong = {Integer.MIN_VALUE, -2, -1, 6, 7, Integer.MAX_VALUE};
        for (int r : wrong) {
            Due.due("define(" + r + ", 0)", s.x.define(r, node), ThrowScenario.REFUSED);
        }
        for (int r = 0; r <= 5; r++) {
            Due.due("run(" + r + ") after them", s.x.run(r, 0, 0), ThrowScenario.REFUSED);
        }
    }

    private static void noSuchNode() {
        Due.by(SECTION, "r out of range or no such node: REFUSED.");
        Scene s = new Scene(1);
        Due.due("define(0, 0) without nodes", s.x.define(0, 0), ThrowScenario.REFUSED);
        s.log(1);
        s.log(2);
        int[] wrong = {Integer.MIN_VALUE, -1, 2, 3, 63, 64, Integer.MAX_VALUE};
        for (int node : wrong) {
            Due.due("define(0, " + node + ")", s.x.define(0, node), ThrowScenario.REFUSED);
            Due.due("run(0) after it", s.x.run(0, 0, 0), ThrowScenario.REFUSED);
        }
        Due.due("define(0, 1)", s.x.define(0, 1), 0);
        Due.due("define(0, 2)", s.x.define(0, 2), ThrowScenario.REFUSED);
        Due.due("define(0, -1)", s.x.define(0, -1), ThrowScenario.REFUSED);
        s.x.run(0, 0, 0);
        Due.dueText("the log after the refusals", s.logText(), "2");
    }
}
