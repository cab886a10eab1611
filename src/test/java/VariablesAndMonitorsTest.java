/** Terms: VARIABLES and MONITORS. */
public final class VariablesAndMonitorsTest {
    private static final int MIN = Integer.MIN_VALUE;
    private static final int MAX = Integer.MAX_VALUE;

    public static void main(String[] args) {
        fourInts();
        zeroBeforeEachRun();
        heldSomeNumberOfTimes();
        heldApart();
        heldMost();
        Due.finish();
    }

    private static void fourInts() {
        Due.by("Terms", "VARIABLES 0 .. 3 are ints");
        for (int v = 0; v <= 3; v++) {
            Scene s = new Scene(1);
            int[] numbers = {MIN, -1, 0, 1, MAX};
            for (int number : numbers) {
                s.runs(s.sequence(s.set(v, number), s.show(v)), 7, 8);
                Due.due("variable(" + v + ")", s.x.variable(v), number);
                Due.due("logged(0)", s.x.logged(0), number);
                Due.due("variable " + (v + 1) % 4 + " beside it", s.x.variable((v + 1) % 4), (v + 1) % 4 == 0 ? 7 : v == 0 ? 8 : 0);
            }
        }
    }

    private static void zeroBeforeEachRun() {
        Due.by("Terms", "VARIABLES 0 .. 3 are ints, 0 before each run.");
        Scene s = new Scene(1);
        int spoils = s.all(s.set(0, 1), s.set(1, 2), s.set(2, 3), s.set(3, 4));
        int shows = s.all(s.show(0), s.show(1), s.show(2), s.show(3));
        s.runs(spoils);
        s.dueLog("after a run that set them", shows, "0 0 0 0");
        s.runs(s.sequence(spoils, s.throwing(0, 0)));
        s.dueLog("after a run that threw", shows, "0 0 0 0");
        s.runs(s.sequence(spoils, s.exit(0)));
        s.dueLog("after a run that exited", shows, "0 0 0 0");
        s.runs(s.endless(3));
        s.dueLog("after a run that was tired", shows, "0 0 0 0");
    }

    private static void heldSomeNumberOfTimes() {
        Due.by("Terms", "MONITORS 0 and 1 are HELD some number of times.");
        Scene s = new Scene(1);
        int wake = s.wake(0);
        int twice = s.lock(0, s.sequence(s.lock(0, wake), wake));
        s.dueLog("HELD twice, then once", twice, "100 100");
        s.dueReport("HELD no more", s.sequence(twice, wake), "uncaught Monitor(0)");
        int node = s.exit(0);
        for (int times = 1; times <= 7; times++) {
            node = s.lock(1, node);
            s.runs(node);
            Due.due("count(9), HELD " + times + " times", s.x.count(9), times);
            Due.due("count(8)", s.x.count(8), 0);
        }
    }

    private static void heldApart() {
        Due.by("Terms", "MONITORS 0 and 1 are HELD");
        Scene s = new Scene(1);
        s.dueReport("monitor 1 while 0 is HELD", s.lock(0, s.wake(1)), "uncaught Monitor(1)");
        s.dueReport("monitor 0 while 1 is HELD", s.lock(1, s.wake(0)), "uncaught Monitor(0)");
        s.runs(s.lock(0, s.lock(1, s.lock(0, s.exit(0)))));
        Due.due("count(8)", s.x.count(8), 2);
        Due.due("count(9)", s.x.count(9), 1);
    }

    /** Six LOCKs and a TRY in each of 12 depths; what is too deep exits. */
    private static void heldMost() {
        Due.by("Terms", "MONITORS 0 and 1 are HELD some number of times.");
        Scene s = new Scene(12);
        int node = s.tryCatch(s.call(0), Scene.DEPTH, s.exit(1));
        for (int i = 0; i < 6; i++) {
            node = s.lock(1, node);
        }
        Due.due("run", s.runs(node), ThrowScenario.EXITED);
        Due.due("count(9)", s.x.count(9), 6 * 12);
    }
}
