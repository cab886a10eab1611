/** Terms: how NODES are numbered, and which operands each kind takes. */
public final class NodesTest {
    private static final int MIN = Integer.MIN_VALUE;
    private static final int MAX = Integer.MAX_VALUE;

    public static void main(String[] args) {
        numbers();
        eachIsAStatement();
        earlierOnes();
        variables();
        nodeOrNothing();
        times();
        routines();
        places();
        monitors();
        classes();
        declaredClasses();
        notNamed();
        anyIntThatIsNamed();
        Due.finish();
    }

    /** Three nodes 0 .. 2, so that every kind finds operands. */
    private static void dueNode(int kind, int a, int b, int c, boolean fits) {
        Scene s = new Scene(1);
        s.log(5);
        s.log(6);
        s.log(7);
        Due.due("node(" + kind + ", " + a + ", " + b + ", " + c + ")", s.x.node(kind, a, b, c), fits ? 3 : ThrowScenario.REFUSED);
        Due.due("count(1) after it", s.x.count(1), fits ? 4 : 3);
    }

    /** That operand number place (0 .. 2) of a kind must be low .. high, the other two being 1. */
    private static void dueRange(int kind, int place, int low, int high) {
        int[] tried = {MIN, low - 1, low, high, high + 1, MAX};
        for (int operand : tried) {
            boolean fits = operand >= low && operand <= high;
            dueNode(kind, place == 0 ? operand : 1, place == 1 ? operand : 1, place == 2 ? operand : 1, fits);
        }
    }

    private static void numbers() {
        Due.by("Terms", "NODES are numbered 0, 1, .. as they are made, at most 64");
        ThrowScenario x = new ThrowScenario(1);
        for (int i = 0; i < 64; i++) {
            Due.due("node " + i, x.node(i % 2 == 0 ? 7 : 11, 0, 0, 0), i);
            Due.due("count(1)", x.count(1), i + 1);
        }
        Due.due("the 65th", x.node(7, 0, 0, 0), ThrowScenario.FULL);
        Due.due("count(1)", x.count(1), 64);
    }

    private static void eachIsAStatement() {
        Due.by("Terms", "NODES are numbered 0, 1, .. as they are made, at most 64; each is a statement.");
        Scene s = new Scene(1);
        for (int i = 0; i < 64; i++) {
            s.log(1000 + i);
        }
        int[] some = {0, 1, 31, 62, 63};
        for (int node : some) {
            s.dueLog("node " + node, node, "" + (1000 + node));
        }
    }

    private static void earlierOnes() {
        Due.by("Terms", "Operands that are nodes must be earlier ones.");
        int[][] nodeOperands = {{4, 0}, {4, 1}, {5, 1}, {6, 1}, {13, 0}, {13, 2}, {14, 0}, {14, 1}, {15, 0}, {15, 1}, {20, 1}};
        for (int[] row : nodeOperands) {
            dueRange(row[0], row[1], 0, 2);
        }
        ThrowScenario x = new ThrowScenario(1);
        Due.due("SEQUENCE of itself", x.node(4, 0, 0, 0), ThrowScenario.REFUSED);
        Due.due("LOG", x.node(0, 0, 0, 0), 0);
        Due.due("SEQUENCE with itself as second", x.node(4, 0, 1, 0), ThrowScenario.REFUSED);
        Due.due("SEQUENCE of the only earlier one", x.node(4, 0, 0, 0), 1);
        Due.due("SEQUENCE of the two", x.node(4, 1, 0, 0), 2);
    }

    private static void variables() {
        Due.by("Terms", "1 SHOW: variable a (0 .. 3) is logged.");
        int[] variableFirst = {1, 2, 3, 5, 8, 16, 17, 19};
        for (int kind : variableFirst) {
            dueRange(kind, 0, 0, 3);
        }
        Due.by("Terms", "16 DIV: variable a becomes itself divided by variable b (0 .. 3)");
        dueRange(16, 1, 0, 3);
    }

    private static void nodeOrNothing() {
        Due.by("Terms", "5 IF variable a is not 0: node b, else node c (-1: nothing).");
        dueRange(5, 2, -1, 2);
        Due.due("IF with -1 for b", new ThrowScenario(1).node(5, 0, -1, -1), ThrowScenario.REFUSED);
    }

    private static void times() {
        Due.by("Terms", "6 LOOP: a (1 .. 8) times node b.");
        dueRange(6, 0, 1, 8);
    }

    private static void routines() {
        Due.by("Terms", "9 CALL routine a (0 .. 5).");
        dueRange(9, 0, 0, 5);
    }

    private static void places() {
        Due.by("Terms", "17 INDEX: variable a is used as a place in an array of b (0 .. 4) places.");
        dueRange(17, 1, 0, 4);
    }

    private static void monitors() {
        Due.by("Terms", "20 LOCK: monitor a (0, 1) is HELD once more");
        dueRange(20, 0, 0, 1);
        Due.by("Terms", "21 NOTIFY monitor a");
        dueRange(21, 0, 0, 1);
    }

    private static void classes() {
        Due.by("Terms", "A class operand must be one that there is (0 .. 9, or declared).");
        int[] classFirst = {10, 12, 18};
        for (int kind : classFirst) {
            dueRange(kind, 0, 0, 9);
        }
        dueRange(13, 1, 0, 9);
    }

    private static void declaredClasses() {
        Due.by("Terms", "A class operand must be one that there is (0 .. 9, or declared).");
        for (int own = 10; own <= 15; own++) {
            Scene s = new Scene(1);
            s.log(1);
            while (s.x.count(0) <= own) {
                s.x.declare(0);
            }
            Due.due("THROW of class " + own, s.x.node(10, own, 0, 0), 1);
            Due.due("WRAP of class " + own, s.x.node(12, own, 0, 0), 2);
            Due.due("CAST to class " + own, s.x.node(18, own, 0, 0), 3);
            Due.due("TRY with class " + own, s.x.node(13, 0, own, 0), 4);
            Due.due("THROW of the next", s.x.node(10, own + 1, 0, 0), ThrowScenario.REFUSED);
            Due.due("WRAP of the next", s.x.node(12, own + 1, 0, 0), ThrowScenario.REFUSED);
            Due.due("CAST to the next", s.x.node(18, own + 1, 0, 0), ThrowScenario.REFUSED);
            Due.due("TRY with the next", s.x.node(13, 0, own + 1, 0), ThrowScenario.REFUSED);
        }
    }

    private static void notNamed() {
        Due.by("Terms", "a, b and c that a kind doesn't name may be any int.");
        int[] namesNone = {7, 11, 22};
        int[] namesFirst = {1, 8, 9, 18, 19, 21};
        int[] namesTwo = {2, 3, 4, 6, 10, 12, 14, 15, 16, 17, 20};
        int[] odd = {MIN, -2, -1, 3, 64, MAX};
        for (int any : odd) {
            for (int kind : namesNone) {
                dueNode(kind, any, any, any, true);
            }
            dueNode(0, 1, any, any, true);
            for (int kind : namesFirst) {
                dueNode(kind, 1, any, any, true);
            }
            for (int kind : namesTwo) {
                dueNode(kind, 1, 1, any, true);
            }
        }
    }

    private static void anyIntThatIsNamed() {
        Due.by("Terms", "0 LOG a: the int a is logged.");
        int[] odd = {MIN, -1, 0, MAX};
        for (int any : odd) {
            dueNode(0, any, 0, 0, true);
        }
        Due.by("Terms", "2 SET variable a to the int b. 3 ADD the int b to variable a");
        for (int any : odd) {
            dueNode(2, 1, any, 0, true);
            dueNode(3, 1, any, 0, true);
        }
        Due.by("Terms", "10 THROW a new THROWABLE of class a with message b");
        for (int any : odd) {
            dueNode(10, 1, any, 0, true);
            dueNode(12, 1, any, 0, true);
        }
    }
}
