/** Promise 4: define. */
public final class DefineTest {
    public static void main(String[] args) {
        Scene s = new Scene(3);
        int one = s.log(1);
        int two = s.log(2);
        int[] wrongRoutines = {-1, 6, Integer.MIN_VALUE, Integer.MAX_VALUE};
        for (int r : wrongRoutines) {
            Due.due("define(" + r + ", 0)", s.x.define(r, one), ThrowScenario.REFUSED);
        }
        int[] wrongNodes = {-1, 2, 63, 64, Integer.MIN_VALUE, Integer.MAX_VALUE};
        for (int node : wrongNodes) {
            Due.due("define(0, " + node + ")", s.x.define(0, node), ThrowScenario.REFUSED);
            Due.due("run(0) after it", s.x.run(0, 0, 0), ThrowScenario.REFUSED);
        }
        for (int r = 0; r <= 5; r++) {
            Due.due("define(" + r + ", 0)", s.x.define(r, one), 0);
            Due.due("run(" + r + ")", s.x.run(r, 0, 0), ThrowScenario.ENDED);
            Due.dueText("log", s.logText(), "1");
        }
        Due.due("define(0, 1)", s.x.define(0, two), 0);
        s.x.run(0, 0, 0);
        Due.dueText("log of the new statement", s.logText(), "2");
        Due.due("define(0, 9)", s.x.define(0, 9), ThrowScenario.REFUSED);
        s.x.run(0, 0, 0);
        Due.dueText("log after the refusal", s.logText(), "2");
        s.x.run(1, 0, 0);
        Due.dueText("log of another routine", s.logText(), "1");
        callsAreBoundWhenTheyAreDone();
        Due.finish();
    }

    private static void callsAreBoundWhenTheyAreDone() {
        Scene s = new Scene(3);
        s.routine(0, s.call(1));
        s.x.run(0, 0, 0);
        Due.dueText("call of an undefined routine", s.logText(), "");
        s.routine(1, s.log(7));
        s.x.run(0, 0, 0);
        Due.dueText("call of a routine defined later", s.logText(), "7");
        s.routine(1, s.log(8));
        s.x.run(0, 0, 0);
        Due.dueText("call of a routine defined anew", s.logText(), "8");
    }
}
