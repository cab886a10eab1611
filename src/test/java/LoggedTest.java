/** Promise 9: logged. */
public final class LoggedTest {
    private static final String SECTION = "Promise 9: logged";
    private static final int MIN = Integer.MIN_VALUE;
    private static final int MAX = Integer.MAX_VALUE;

    public static void main(String[] args) {
        fromZero();
        longest();
        none();
        noneBefore();
        Due.finish();
    }

    private static void fromZero() {
        Due.by(SECTION, "The k-th int logged in the last run, from 0");
        Scene s = new Scene(2);
        s.runs(s.all(s.log(MIN), s.show(1), s.log(MAX), s.lock(1, s.wake(1)), s.tryCatch(s.throwing(9, 1), 0, s.origin())), 3, -4);
        long[] due = {MIN, -4, MAX, 101, 9};
        for (int k = 0; k < due.length; k++) {
            Due.due("logged(" + k + ")", s.x.logged(k), due[k]);
        }
        s.x.dispatch(1);
        s.routine(1, s.log(7));
        s.dueLog("a run that throws and is dispatched", s.sequence(s.log(6), s.throwing(0, 0)), "6 7");
    }

    private static void longest() {
        Due.by(SECTION, "The k-th int logged in the last run, from 0");
        Scene s = new Scene(2);
        s.runs(s.loop(8, s.loop(8, s.loop(8, s.log(1)))));
        Due.due("count(7)", s.x.count(7), 261);
        Due.due("logged(0)", s.x.logged(0), 1);
        Due.due("logged(260)", s.x.logged(260), 1);
        Due.due("logged(261)", s.x.logged(261), ThrowScenario.NONE);
    }

    private static void none() {
        Due.by(SECTION, "NONE if there is none.");
        Scene s = new Scene(2);
        s.runs(s.all(s.log(1), s.log(2), s.log(3)));
        s.runs(s.log(4));
        int[] wrong = {MIN, -2, -1, 1, 2, 3, 299, 300, 301, MAX};
        for (int k : wrong) {
            Due.due("logged(" + k + ") of one", s.x.logged(k), ThrowScenario.NONE);
        }
        s.runs(s.set(0, 1));
        Due.due("logged(0) of an empty log", s.x.logged(0), ThrowScenario.NONE);
    }

    private static void noneBefore() {
        Due.by(SECTION, "NONE if there is none.");
        Scene s = new Scene(2);
        int[] any = {MIN, -1, 0, 1, MAX};
        for (int k : any) {
            Due.due("logged(" + k + ") before a run", s.x.logged(k), ThrowScenario.NONE);
        }
    }
}
