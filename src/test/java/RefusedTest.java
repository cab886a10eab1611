/** Terms: a refused call changes nothing. */
public final class RefusedTest {
    private static final int MIN = Integer.MIN_VALUE;
    private static final int MAX = Integer.MAX_VALUE;

    /** Calls that are refused by an object of withARun, each a method and its arguments. */
    private static final int[][] DECLARES = {{-1}, {11}, {15}, {16}, {MIN}, {MAX}};
    private static final int[][] NODES = {{-1, 0, 0, 0}, {23, 0, 0, 0}, {MIN, 0, 0, 0}, {MAX, 0, 0, 0}, {1, 4, 0, 0}, {4, 0, 64, 0},
        {5, 0, 0, -2}, {6, 0, 0, 0}, {6, 9, 0, 0}, {9, 6, 0, 0}, {10, 11, 0, 0}, {13, 0, 11, 0}, {16, 0, 4, 0}, {17, 0, 5, 0},
        {20, 2, 0, 0}, {21, -1, 0, 0}};
    private static final int[][] DEFINES = {{-1, 0}, {6, 0}, {0, -1}, {0, 64}, {1, MAX}, {MIN, MIN}, {MAX, 0}};
    private static final int[][] DISPATCHES = {{-2}, {6}, {MIN}, {MAX}};
    private static final int[][] RUNS = {{-1, 7, 7}, {6, 7, 7}, {5, 7, 7}, {MIN, 7, 7}, {MAX, 7, 7}};
    private static final int[][] REPORTS = {{-2}, {120}, {MIN}, {MAX}};
    private static final int[][] COUNTS = {{-1}, {10}, {MIN}, {MAX}};

    public static void main(String[] args) {
        afterARun();
        beforeARun();
        levelNine();
        whenFull();
        Due.finish();
    }

    /** An object after a run with something in everything that it tells. */
    private static Scene withARun() {
        Scene s = built();
        s.x.run(0, 3, 4);
        return s;
    }

    private static Scene built() {
        Scene s = new Scene(2);
        s.x.declare(Scene.ERROR);
        int thrower = s.throwing(10, 1);
        int wrapped = s.tryCatch(s.resource(thrower, thrower), Scene.ERROR, s.wrap(Scene.NULL, 2));
        s.routine(0, s.all(s.log(8), s.call(1), wrapped));
        s.routine(1, s.returns(1));
        s.routine(2, s.sequence(s.show(0), s.lock(1, s.exit(1))));
        s.routine(3, s.sequence(s.show(0), s.wrap(Scene.CAST, 6)));
        s.x.dispatch(3);
        return s;
    }

    private static long answer(Scene s, String method, int[] a) {
        switch (method) {
            case "declare": return s.x.declare(a[0]);
            case "node": return s.x.node(a[0], a[1], a[2], a[3]);
            case "define": return s.x.define(a[0], a[1]);
            case "dispatch": return s.x.dispatch(a[0]);
            case "run": return s.x.run(a[0], a[1], a[2]);
            case "report": return s.x.report(a[0]);
            default: return s.x.count(a[0]);
        }
    }

    private static void dueUnchanged(boolean afterARun, String method, int[][] rows) {
        Scene untouched = afterARun ? withARun() : built();
        String state = State.of(untouched);
        String afterwards = State.afterwards(untouched);
        for (int[] row : rows) {
            Scene s = afterARun ? withARun() : built();
            String call = method + java.util.Arrays.toString(row);
            Due.due(call, answer(s, method, row), ThrowScenario.REFUSED);
            Due.dueText("what it tells after " + call, State.of(s), state);
            Due.dueText("what runs tell after " + call, State.afterwards(s), afterwards);
        }
    }

    private static void dueAllUnchanged(boolean afterARun) {
        dueUnchanged(afterARun, "declare", DECLARES);
        dueUnchanged(afterARun, "node", NODES);
        dueUnchanged(afterARun, "define", DEFINES);
        dueUnchanged(afterARun, "dispatch", DISPATCHES);
        dueUnchanged(afterARun, "run", RUNS);
        dueUnchanged(afterARun, "report", REPORTS);
        dueUnchanged(afterARun, "count", COUNTS);
    }

    private static void afterARun() {
        Due.by("Terms", "A refused call changes nothing.");
        Due.dueText("the report of the run", withARun().reportText(), "handler threw Null(2) from Own10(1)+1 then Cast(6)");
        dueAllUnchanged(true);
    }

    private static void beforeARun() {
        Due.by("Terms", "A refused call changes nothing.");
        dueAllUnchanged(false);
    }

    private static void levelNine() {
        Due.by("Terms", "A refused call changes nothing.");
        Scene s = withARun();
        int node = s.log(1);
        for (int level = 2; level <= 8; level++) {
            node = s.loop(1, node);
        }
        String state = State.of(s);
        Due.due("node of LEVEL 9", s.x.node(6, 1, node, 0), ThrowScenario.REFUSED);
        Due.dueText("what it tells after it", State.of(s), state);
        Due.due("the next node", s.x.node(7, 0, 0, 0), node + 1);
    }

    private static void whenFull() {
        Due.by("Promise 3: node", "64 nodes: FULL (tested last).");
        Scene s = withARun();
        while (s.x.count(1) < 64) {
            s.breaks();
        }
        while (s.x.count(0) < 16) {
            s.x.declare(0);
        }
        String state = State.of(s);
        Due.due("declare(0)", s.x.declare(0), ThrowScenario.FULL);
        Due.due("node(7, 0, 0, 0)", s.x.node(7, 0, 0, 0), ThrowScenario.FULL);
        Due.dueText("what it tells after them", State.of(s), state);
        Due.due("define(4, 64)", s.x.define(4, 64), ThrowScenario.REFUSED);
        Due.due("define(4, 63)", s.x.define(4, 63), 0);
        Due.due("run(4, 0, 0)", s.x.run(4, 0, 0), ThrowScenario.ENDED);
    }
}
