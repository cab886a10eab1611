/** Terms: the CLASSES of throwables, what a class IS, and what a THROWABLE has. */
public final class ClassesTest {
    private static final int MIN = Integer.MIN_VALUE;
    private static final int MAX = Integer.MAX_VALUE;

    public static void main(String[] args) {
        givenOnes();
        ownOnes();
        isItself();
        isWhatItsParentIs();
        aThrowable();
        suppressedAtFirst();
        Due.finish();
    }

    /** Whether a class is caught as another. */
    private static void dueIs(Scene s, int type, int other, boolean is) {
        int outcome = s.runs(s.tryCatch(s.throwing(type, 1), other, s.log(1)));
        Due.due("class " + type + " caught as " + other, outcome, is ? ThrowScenario.ENDED : ThrowScenario.UNCAUGHT);
    }

    private static void givenOnes() {
        Due.by("Terms", "0 Throwable (none), 9 Exception (0), 8 Error (0), 7 Runtime (9), 1 Null, 2 Arithmetic, 3 Index, 4 Cast and"
            + " 6 Monitor (all 7), 5 Depth (8)");
        int[][] ancestors = {{}, {7, 9, 0}, {7, 9, 0}, {7, 9, 0}, {7, 9, 0}, {8, 0}, {7, 9, 0}, {9, 0}, {0}, {0}};
        for (int type = 0; type <= 9; type++) {
            Scene s = new Scene(1);
            for (int other = 0; other <= 9; other++) {
                boolean is = type == other;
                for (int ancestor : ancestors[type]) {
                    is = is || ancestor == other;
                }
                dueIs(s, type, other, is);
            }
        }
    }

    private static void ownOnes() {
        Due.by("Terms", "10 .. 15 are own ones, in the order in which they are declared.");
        ThrowScenario x = new ThrowScenario(1);
        for (int own = 10; own <= 15; own++) {
            Due.due("node(10, " + own + ", ..) before it is declared", x.node(10, own, 0, 0), ThrowScenario.REFUSED);
            Due.due("declare(" + (own - 10) + ")", x.declare(own - 10), own);
            Due.due("node(10, " + own + ", ..)", x.node(10, own, 0, 0), own - 10);
        }
        Due.due("node(10, 16, ..)", x.node(10, 16, 0, 0), ThrowScenario.REFUSED);
    }

    /** The own classes 10 .. 15, each the parent of the next; the first one's parent is given. */
    private static Scene withLongestLine(int parent) {
        Scene s = new Scene(1);
        s.x.declare(parent);
        for (int own = 11; own <= 15; own++) {
            s.x.declare(own - 1);
        }
        return s;
    }

    private static void isItself() {
        Due.by("Terms", "A class IS another if it is that one");
        Scene s = withLongestLine(Scene.NULL);
        for (int type = 0; type <= 15; type++) {
            dueIs(s, type, type, true);
        }
    }

    private static void isWhatItsParentIs() {
        Due.by("Terms", "A class IS another if it is that one or its parent IS that one.");
        int[] above = {14, 13, 12, 11, 10, Scene.MONITOR, Scene.RUNTIME, Scene.EXCEPTION, Scene.THROWABLE};
        Scene s = withLongestLine(Scene.MONITOR);
        for (int type : above) {
            dueIs(s, 15, type, true);
        }
        int[] beside = {Scene.NULL, Scene.DEPTH, Scene.ERROR};
        for (int type : beside) {
            dueIs(s, 15, type, false);
        }
        Scene t = withLongestLine(Scene.DEPTH);
        for (int type = 10; type < 15; type++) {
            dueIs(t, type, type + 1, false);
        }
        dueIs(t, Scene.DEPTH, 10, false);
        dueIs(t, Scene.THROWABLE, 15, false);
        dueIs(t, 10, Scene.ERROR, true);
        dueIs(t, 10, Scene.EXCEPTION, false);
    }

    private static void aThrowable() {
        Due.by("Terms", "A THROWABLE has a class, a message (an int), a cause (a THROWABLE or none)");
        int[] messages = {MIN, -1, 0, MAX};
        Scene s = new Scene(1);
        for (int message : messages) {
            s.runs(s.tryCatch(s.throwing(Scene.THROWABLE, message), 0, s.wrap(Scene.EXCEPTION, message)));
            Due.due("its class", s.x.failure(0, 0), Scene.EXCEPTION);
            Due.due("its message", s.x.failure(0, 1), message);
            Due.due("its cause's class", s.x.failure(1, 0), Scene.THROWABLE);
            Due.due("its cause's message", s.x.failure(1, 1), message);
            Due.due("its cause's cause", s.x.failure(2, 0), ThrowScenario.NONE);
        }
    }

    private static void suppressedAtFirst() {
        Due.by("Terms", "and a number of suppressed ones, 0 at first.");
        Scene s = new Scene(1);
        int thrower = s.throwing(Scene.ERROR, 1);
        int closed = s.resource(thrower, thrower);
        s.runs(closed);
        Due.due("one was suppressed", s.x.failure(0, 2), 1);
        s.runs(thrower);
        Due.due("none in the next run", s.x.failure(0, 2), 0);
        s.runs(closed);
        Due.due("one again, not two", s.x.failure(0, 2), 1);
        s.runs(s.tryCatch(closed, 0, s.wrap(Scene.CAST, 2)));
        Due.due("none of the one that wraps", s.x.failure(0, 2), 0);
        Due.due("one of its cause", s.x.failure(1, 2), 1);
    }
}
