/** Promise 6: run. */
public final class RunTest {
    private static final String SECTION = "Promise 6: run";
    private static final int MIN = Integer.MIN_VALUE;
    private static final int MAX = Integer.MAX_VALUE;

    public static void main(String[] args) {
        theOutcome();
        variables();
        monitors();
        log();
        nothingFromTheRunBefore();
        outOfRange();
        notDefined();
        Due.finish();
    }

    private static void theOutcome() {
        Due.by(SECTION, "Runs routine r: the OUTCOME.");
        for (int r = 0; r <= 5; r++) {
            Scene s = new Scene(1);
            s.routine(r, s.returns(0));
            Due.due("run(" + r + ")", s.x.run(r, 0, 0), 0);
            s.routine(r, s.throwing(0, 0));
            Due.due("run(" + r + ") that throws", s.x.run(r, 0, 0), 1);
            s.x.dispatch((r + 1) % 6);
            s.routine((r + 1) % 6, s.log(1));
            Due.due("run(" + r + ") that is dispatched", s.x.run(r, 0, 0), 2);
            s.routine((r + 1) % 6, s.rethrow());
            Due.due("run(" + r + ") whose handler throws", s.x.run(r, 0, 0), 3);
            s.routine(r, s.exit(0));
            Due.due("run(" + r + ") that exits", s.x.run(r, 0, 0), 4);
            s.routine(r, s.endless(0));
            Due.due("run(" + r + ") that is tired", s.x.run(r, 0, 0), 5);
        }
    }

    private static void variables() {
        Due.by(SECTION, "Before it the VARIABLES become a, b, 0, 0");
        Scene s = new Scene(1);
        int shows = s.all(s.show(0), s.show(1), s.show(2), s.show(3));
        int spoils = s.all(s.set(0, 6), s.set(1, 7), s.set(2, 8), s.set(3, 9));
        s.runs(shows, MIN, MAX);
        Due.dueText("the first run", s.logText(), "-2147483648 2147483647 0 0");
        s.runs(spoils, 1, 2);
        s.runs(shows, MAX, MIN);
        Due.dueText("after a run that set them", s.logText(), "2147483647 -2147483648 0 0");
        s.runs(spoils, 1, 2);
        s.runs(shows, 0, 0);
        Due.dueText("0 and 0", s.logText(), "0 0 0 0");
    }

    private static void monitors() {
        Due.by(SECTION, "no monitor is HELD");
        for (int m = 0; m <= 1; m++) {
            Scene s = new Scene(1);
            s.runs(s.lock(m, s.lock(m, s.exit(0))));
            Due.due("count of a run that kept it", s.x.count(8 + m), 2);
            Due.due("a NOTIFY in the next run", s.runs(s.wake(m)), ThrowScenario.UNCAUGHT);
            Due.due("count of that run", s.x.count(8 + m), 0);
            s.runs(s.lock(m, s.endless(2)));
            Due.due("count of a tired run", s.x.count(8 + m), 1);
            s.runs(s.lock(m, s.exit(0)));
            Due.due("count of the next run", s.x.count(8 + m), 1);
        }
    }

    private static void log() {
        Due.by(SECTION, "and the log is empty.");
        Scene s = new Scene(1);
        int two = s.sequence(s.log(1), s.log(2));
        s.dueLog("the first run", two, "1 2");
        s.dueLog("the second run", two, "1 2");
        s.dueLog("a run without a log", s.set(0, 1), "");
        Due.due("count(7)", s.x.count(7), 0);
    }

    private static void nothingFromTheRunBefore() {
        Due.by(SECTION, "Runs routine r: the OUTCOME.");
        Scene s = new Scene(2);
        s.x.dispatch(1);
        s.routine(1, s.rethrow());
        s.runs(s.tryCatch(s.resource(s.throwing(0, 1), s.call(5)), 0, s.rethrow()));
        s.runs(s.log(1));
        Due.due("failure(0, 0)", s.x.failure(0, 0), ThrowScenario.NONE);
        Due.due("second(0, 0)", s.x.second(0, 0), ThrowScenario.NONE);
        Due.due("value()", s.x.value(), ThrowScenario.NONE);
        int[] counts = {1, 0, 0, 0, 1, 1, 0, 0};
        for (int what = 2; what <= 9; what++) {
            Due.due("count(" + what + ")", s.x.count(what), counts[what - 2]);
        }
        Due.dueText("report", s.reportText(), "ended");
    }

    private static void outOfRange() {
        Due.by(SECTION, "r out of 0 .. 5 or not defined: REFUSED.");
        Scene s = new Scene(1);
        int node = s.log(1);
        for (int r = 0; r <= 5; r++) {
            s.routine(r, node);
        }
        int[] wrong = {MIN, -2, -1, 6, 7, MAX};
        for (int r : wrong) {
            Due.due("run(" + r + ", 1, 2)", s.x.run(r, 1, 2), ThrowScenario.REFUSED);
        }
        Due.due("report(-1) after them", s.x.report(-1), 0);
    }

    private static void notDefined() {
        Due.by(SECTION, "r out of 0 .. 5 or not defined: REFUSED.");
        for (int defined = 0; defined <= 5; defined++) {
            Scene s = new Scene(1);
            s.routine(defined, s.log(1));
            for (int r = 0; r <= 5; r++) {
                Due.due("run(" + r + ", 1, 2)", s.x.run(r, 1, 2), r == defined ? ThrowScenario.ENDED : ThrowScenario.REFUSED);
            }
        }
    }
}
