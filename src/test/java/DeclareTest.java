/** Promise 2: declare, and what a class IS. */
public final class DeclareTest {
    public static void main(String[] args) {
        numbersAndRefusals();
        parentsOfGivenOnes();
        parentsOfOwnOnes();
        Due.finish();
    }

    private static void numbersAndRefusals() {
        ThrowScenario x = new ThrowScenario(1);
        int[] missing = {-1, 10, 11, 15, 16, Integer.MIN_VALUE, Integer.MAX_VALUE};
        for (int parent : missing) {
            Due.due("declare(" + parent + ")", x.declare(parent), ThrowScenario.REFUSED);
        }
        Due.due("count(0) after refusals", x.count(0), 10);
        Due.due("declare(0)", x.declare(0), 10);
        Due.due("declare(11) too early", x.declare(11), ThrowScenario.REFUSED);
        Due.due("declare(10)", x.declare(10), 11);
        Due.due("declare(9)", x.declare(9), 12);
        Due.due("declare(5)", x.declare(5), 13);
        Due.due("declare(13)", x.declare(13), 14);
        Due.due("count(0) with five", x.count(0), 15);
        Due.due("declare(14)", x.declare(14), 15);
        Due.due("declare(0) when full", x.declare(0), ThrowScenario.FULL);
        Due.due("declare(15) when full", x.declare(15), ThrowScenario.FULL);
        Due.due("declare(16) when full", x.declare(16), ThrowScenario.REFUSED);
        Due.due("declare(-1) when full", x.declare(-1), ThrowScenario.REFUSED);
        Due.due("count(0) when full", x.count(0), 16);
    }

    /** Whether a class is caught as another. */
    private static void dueIs(Scene s, int type, int other, boolean is) {
        int outcome = s.runs(s.tryCatch(s.throwing(type, 1), other, s.log(1)));
        Due.due("class " + type + " caught as " + other, outcome, is ? ThrowScenario.ENDED : ThrowScenario.UNCAUGHT);
    }

    private static void parentsOfGivenOnes() {
        int[][] ancestors = {{}, {7, 9, 0}, {7, 9, 0}, {7, 9, 0}, {7, 9, 0}, {8, 0}, {7, 9, 0}, {9, 0}, {0}, {0}};
        for (int type = 0; type <= 9; type++) {
            Scene s = new Scene(1);
            for (int other = 0; other <= 9; other++) {
                boolean is = type == other;
                for (int ancestor : ancestors[type]) {
                    is = is || ancestor == other;
                }
                dueIs(s, type, other, is);
            }
        }
    }

    private static void parentsOfOwnOnes() {
        Scene s = new Scene(1);
        s.x.declare(Scene.RUNTIME);
        s.x.declare(10);
        s.x.declare(Scene.DEPTH);
        s.x.declare(12);
        s.x.declare(13);
        s.x.declare(14);
        dueIs(s, 11, 10, true);
        dueIs(s, 11, Scene.RUNTIME, true);
        dueIs(s, 11, Scene.EXCEPTION, true);
        dueIs(s, 11, Scene.THROWABLE, true);
        dueIs(s, 11, Scene.ERROR, false);
        dueIs(s, 10, 11, false);
        dueIs(s, 12, Scene.DEPTH, true);
        dueIs(s, 12, Scene.ERROR, true);
        dueIs(s, 12, Scene.EXCEPTION, false);
        dueIs(s, Scene.DEPTH, 12, false);
        dueIs(s, 15, 12, true);
        dueIs(s, 15, Scene.THROWABLE, true);
        dueIs(s, 15, 11, false);
        dueIs(s, 12, 15, false);
    }
}
