/** Promise 12: report. The text itself is tested with the terms. */
public final class ReportTest {
    private static final String SECTION = "Promise 12: report";
    private static final int MIN = Integer.MIN_VALUE;
    private static final int MAX = Integer.MAX_VALUE;

    public static void main(String[] args) {
        characters();
        ofTheLastRun();
        length();
        lengthBefore();
        anotherPlace();
        anotherPlaceOfTheLongest();
        Due.finish();
    }

    private static void dueText(Scene s, String want) {
        for (int i = 0; i < want.length(); i++) {
            Due.due("report(" + i + ")", s.x.report(i), want.charAt(i));
        }
        Due.due("report(-1)", s.x.report(-1), want.length());
        Due.due("report(" + want.length() + ")", s.x.report(want.length()), ThrowScenario.REFUSED);
    }

    private static void characters() {
        Due.by(SECTION, "Character i of the REPORT of the last run, from 0");
        Scene s = new Scene(1);
        s.runs(s.throwing(Scene.CAST, -12));
        dueText(s, "uncaught Cast(-12)");
    }

    private static void ofTheLastRun() {
        Due.by(SECTION, "Character i of the REPORT of the last run, from 0");
        Scene s = new Scene(1);
        s.runs(s.throwing(Scene.ARITHMETIC, 12345));
        s.runs(s.returns(0), -7, 0);
        dueText(s, "ended -7");
        s.runs(s.log(1));
        dueText(s, "ended");
        s.x.run(4, 0, 0);
        dueText(s, "ended");
    }

    private static void length() {
        Due.by(SECTION, "its length for i = -1");
        Scene s = new Scene(1);
        s.runs(s.log(1));
        Due.due("report(-1)", s.x.report(-1), 5);
        s.runs(s.exit(0), 10, 0);
        Due.due("report(-1)", s.x.report(-1), 7);
    }

    private static void lengthBefore() {
        Due.by(SECTION, "(0 before the first run)");
        Scene s = new Scene(1);
        Due.due("report(-1)", s.x.report(-1), 0);
        s.x.run(0, 1, 2);
        Due.due("report(-1) after a refused run", s.x.report(-1), 0);
    }

    private static void anotherPlace() {
        Due.by(SECTION, "REFUSED for another i.");
        Scene s = new Scene(1);
        int[] before = {MIN, -2, 0, 1, 119, 120, MAX};
        for (int i : before) {
            Due.due("report(" + i + ") before a run", s.x.report(i), ThrowScenario.REFUSED);
        }
        s.runs(s.throwing(Scene.ARITHMETIC, 12345));
        s.runs(s.log(1));
        int[] behind = {MIN, -2, 5, 6, 119, 120, MAX};
        for (int i : behind) {
            Due.due("report(" + i + ") of \"ended\"", s.x.report(i), ThrowScenario.REFUSED);
        }
    }

    private static void anotherPlaceOfTheLongest() {
        Due.by(SECTION, "REFUSED for another i.");
        Scene s = new Scene(1);
        int node = s.throwing(Scene.EXCEPTION, MIN);
        for (int i = 0; i < 6; i++) {
            node = s.tryCatch(node, 0, s.wrap(Scene.EXCEPTION, MIN));
        }
        s.runs(node);
        String one = "Exception(-2147483648)";
        String whole = "uncaught " + one + (" from " + one).repeat(6);
        Due.due("report(-1) of the longest", s.x.report(-1), 120);
        Due.due("report(119) of the longest", s.x.report(119), whole.charAt(119));
        int[] behind = {MIN, -2, 120, 121, MAX};
        for (int i : behind) {
            Due.due("report(" + i + ") of the longest", s.x.report(i), ThrowScenario.REFUSED);
        }
    }
}
