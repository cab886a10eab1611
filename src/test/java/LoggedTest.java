/** Promise 9: logged. */
public final class LoggedTest {
    public static void main(String[] args) {
        Scene s = new Scene(2);
        s.runs(s.all(s.log(Integer.MIN_VALUE), s.show(1), s.log(Integer.MAX_VALUE), s.lock(1, s.wake(1))), 3, -4);
        Due.due("logged(0)", s.x.logged(0), Integer.MIN_VALUE);
        Due.due("logged(1)", s.x.logged(1), -4);
        Due.due("logged(2)", s.x.logged(2), Integer.MAX_VALUE);
        Due.due("logged(3)", s.x.logged(3), 101);
        int[] wrong = {4, -1, 300, 512, Integer.MIN_VALUE, Integer.MAX_VALUE};
        for (int k : wrong) {
            Due.due("logged(" + k + ")", s.x.logged(k), ThrowScenario.NONE);
        }
        s.runs(s.sequence(s.log(6), s.throwing(0, 0)));
        Due.dueText("the next run's log", s.logText(), "6");
        s.runs(s.set(0, 1));
        Due.due("logged(0) of an empty log", s.x.logged(0), ThrowScenario.NONE);
        int one = s.log(1);
        s.runs(s.loop(8, s.loop(8, s.loop(8, one))));
        Due.due("the longest log", s.x.count(7), 261);
        Due.due("its last", s.x.logged(260), 1);
        Due.due("behind its last", s.x.logged(261), ThrowScenario.NONE);
        Due.finish();
    }
}
