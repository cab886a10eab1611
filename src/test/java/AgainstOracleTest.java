import java.util.Random;

/** Many made-up scenarios, the same in every run, whose answers must be those of the Oracle. */
public final class AgainstOracleTest {
    private static final int SCENARIOS = 20000;
    private static final int MOST_CALLS = 512;
    private static final int CALLS_OF_A_TURN = 270;
    private static final int[] ODD = {Integer.MIN_VALUE, -257, -2, -1, 0, 1, 2, 3, 5, 6, 9, 10, 16, 64, 300, Integer.MAX_VALUE};

    private final Random dice;
    private final ThrowScenario x;
    private final Oracle o;
    private int calls = 0;
    private int nodes = 0;
    private int classes = 10;

    private AgainstOracleTest(int seed) {
        dice = new Random(seed);
        int limit = dice.nextInt(16) - 1;
        x = new ThrowScenario(limit);
        o = new Oracle(limit);
    }

    public static void main(String[] args) {
        int[] outcomes = new int[6];
        for (int seed = 0; seed < SCENARIOS && !Due.anyWrong(); seed++) {
            new AgainstOracleTest(seed).play(outcomes);
            if (Due.anyWrong()) {
                System.out.println("in the scenario of seed " + seed);
            }
        }
        for (int outcome = 0; outcome < 6; outcome++) {
            Due.due("outcome " + outcome + " was met often", outcomes[outcome] > 100 ? 1 : 0, 1);
        }
        Due.finish();
    }

    private void play(int[] outcomes) {
        int declared = dice.nextInt(8);
        for (int i = 0; i < declared; i++) {
            declare();
        }
        int wanted = 10 + dice.nextInt(60);
        for (int i = 0; i < wanted; i++) {
            makeNode();
        }
        for (int r = 0; r < 6; r++) {
            define(r);
        }
        // what an object answers after its 512th call is free
        while (calls + CALLS_OF_A_TURN <= MOST_CALLS) {
            if (dice.nextInt(3) > 0) {
                dispatch();
            }
            int outcome = runOne();
            if (outcome >= 0) {
                outcomes[outcome]++;
            }
            compare();
            makeNode();
            define(dice.nextInt(6));
        }
        Due.due("calls stay within what is promised", calls <= MOST_CALLS ? 1 : 0, 1);
    }

    private void due(String call, long got, long want) {
        calls++;
        Due.due(call, got, want);
    }

    private int odd() {
        return ODD[dice.nextInt(ODD.length)];
    }

    private boolean seldom() {
        return dice.nextInt(40) == 0;
    }

    private void declare() {
        int parent = seldom() ? odd() : dice.nextInt(classes);
        int due = o.declare(parent);
        due("declare(" + parent + ")", x.declare(parent), due);
        classes = due >= 0 ? due + 1 : classes;
    }

    private int someNode() {
        // latest ones first, for deep statements
        return Math.max(0, nodes - 1 - Math.min(dice.nextInt(12), dice.nextInt(40)));
    }

    /** An operand that mostly suits the kind; what suits is told anew here, roughly. */
    private int operand(int kind, int place) {
        if (seldom()) {
            return odd();
        }
        boolean first = place == 0;
        switch (kind) {
            case 4: case 14: case 15: return someNode();
            case 5: return first ? dice.nextInt(4) : place == 2 && dice.nextInt(3) == 0 ? -1 : someNode();
            case 6: return first ? 1 + dice.nextInt(8) : someNode();
            case 9: return dice.nextInt(6);
            case 10: case 12: case 18: return first ? dice.nextInt(classes) : odd();
            case 13: return place == 1 ? dice.nextInt(4) == 0 ? dice.nextInt(classes) : 0 : someNode();
            case 16: return dice.nextInt(4);
            case 17: return first ? dice.nextInt(4) : dice.nextInt(5);
            case 20: return first ? dice.nextInt(2) : someNode();
            case 21: return dice.nextInt(2);
            case 0: return odd();
            default: return first ? dice.nextInt(4) : odd();
        }
    }

    private int someKind() {
        int[] compound = {4, 4, 5, 6, 13, 13, 14, 15, 20};
        if (seldom()) {
            return odd();
        }
        return nodes > 3 && dice.nextInt(3) > 0 ? compound[dice.nextInt(compound.length)] : dice.nextInt(23);
    }

    private void makeNode() {
        int kind = someKind();
        if (kind == 19 && dice.nextInt(3) > 0) {
            kind = 12;
        }
        int a = operand(kind, 0);
        int b = operand(kind, 1);
        int c = operand(kind, 2);
        int due = o.node(kind, a, b, c);
        due("node(" + kind + ", " + a + ", " + b + ", " + c + ")", x.node(kind, a, b, c), due);
        nodes = due >= 0 ? due + 1 : nodes;
    }

    private void define(int r) {
        int routine = seldom() ? odd() : r;
        int node = seldom() ? odd() : someNode();
        due("define(" + routine + ", " + node + ")", x.define(routine, node), o.define(routine, node));
    }

    private void dispatch() {
        int r = seldom() ? odd() : dice.nextInt(7) - 1;
        due("dispatch(" + r + ")", x.dispatch(r), o.dispatch(r));
    }

    private int runOne() {
        int r = seldom() ? odd() : dice.nextInt(6);
        int a = odd();
        int b = odd();
        int due = o.run(r, a, b);
        due("run(" + r + ", " + a + ", " + b + ")", x.run(r, a, b), due);
        return due;
    }

    private void compare() {
        due("value()", x.value(), o.value());
        for (int v = -1; v <= 4; v++) {
            due("variable(" + v + ")", x.variable(v), o.variable(v));
        }
        for (int what = -1; what <= 10; what++) {
            due("count(" + what + ")", x.count(what), o.count(what));
        }
        int logged = o.count(7);
        for (int k = Math.max(-1, logged - 30); k <= logged; k++) {
            due("logged(" + k + ")", x.logged(k), o.logged(k));
        }
        compareChains();
        for (int i = -2; i <= o.report(-1); i++) {
            due("report(" + i + ")", x.report(i), o.report(i));
        }
    }

    /** The begin and the end of both cause chains. */
    private void compareChains() {
        int failures = 0;
        while (o.failure(failures, 0) != ThrowScenario.NONE) {
            failures++;
        }
        int seconds = 0;
        while (o.second(seconds, 0) != ThrowScenario.NONE) {
            seconds++;
        }
        for (int what = -1; what <= 3; what++) {
            for (int i = 0; i < 8; i++) {
                int k = i < 4 ? i - 1 : failures + i - 7;
                due("failure(" + k + ", " + what + ")", x.failure(k, what), o.failure(k, what));
                int m = i < 4 ? i - 1 : seconds + i - 7;
                due("second(" + m + ", " + what + ")", x.second(m, what), o.second(m, what));
            }
        }
    }
}
