/** Promise 3: node, its operands, its LEVEL and when it is FULL. */
public final class NodeTest {
    private static final int MIN = Integer.MIN_VALUE;
    private static final int MAX = Integer.MAX_VALUE;

    public static void main(String[] args) {
        kinds();
        operandsThatAreNotNamed();
        operands();
        ownClasses();
        nodesMustBeEarlier();
        levels();
        full();
        Due.finish();
    }

    /** Three nodes 0 .. 2, so that every kind finds operands. */
    private static ThrowScenario withThreeNodes() {
        ThrowScenario x = new ThrowScenario(1);
        for (int i = 0; i < 3; i++) {
            Due.due("node(0, 5, 0, 0)", x.node(0, 5, 0, 0), i);
        }
        return x;
    }

    private static void dueNode(int kind, int a, int b, int c, boolean fits) {
        ThrowScenario x = withThreeNodes();
        Due.due("node(" + kind + ", " + a + ", " + b + ", " + c + ")", x.node(kind, a, b, c), fits ? 3 : ThrowScenario.REFUSED);
        Due.due("count(1) after it", x.count(1), fits ? 4 : 3);
    }

    private static void kinds() {
        for (int kind = 0; kind <= 22; kind++) {
            dueNode(kind, 1, 1, 1, true);
        }
        int[] none = {-1, 23, 24, MIN, MAX};
        for (int kind : none) {
            dueNode(kind, 1, 1, 1, false);
        }
    }

    private static void operandsThatAreNotNamed() {
        int[] namesOne = {1, 8, 9, 18, 19, 21};
        int[] namesTwo = {4, 6, 14, 15, 16, 17, 20};
        int[] namesNone = {0, 7, 11, 22};
        int[] secondIsAnyInt = {2, 3, 10, 12};
        int[] odd = {-1, -2, 64, MIN, MAX};
        for (int any : odd) {
            for (int kind : namesNone) {
                dueNode(kind, any, any, any, true);
            }
            for (int kind : namesOne) {
                dueNode(kind, 1, any, any, true);
            }
            for (int kind : secondIsAnyInt) {
                dueNode(kind, 1, any, any, true);
            }
            for (int kind : namesTwo) {
                dueNode(kind, 1, 1, any, true);
            }
        }
    }

    /** That operand number place (0 .. 2) of a kind must be low .. high, the other two being 1. */
    private static void dueRange(int kind, int place, int low, int high) {
        int[] tried = {MIN, low - 1, low, high, high + 1, MAX};
        for (int operand : tried) {
            boolean fits = operand >= low && operand <= high;
            dueNode(kind, place == 0 ? operand : 1, place == 1 ? operand : 1, place == 2 ? operand : 1, fits);
        }
    }

    private static void operands() {
        int[] variableFirst = {1, 2, 3, 5, 8, 16, 17, 19};
        for (int kind : variableFirst) {
            dueRange(kind, 0, 0, 3);
        }
        dueRange(16, 1, 0, 3);
        dueRange(17, 1, 0, 4);
        int[] nodeFirst = {4, 13, 14, 15};
        for (int kind : nodeFirst) {
            dueRange(kind, 0, 0, 2);
        }
        int[] nodeSecond = {4, 5, 6, 14, 15, 20};
        for (int kind : nodeSecond) {
            dueRange(kind, 1, 0, 2);
        }
        dueRange(5, 2, -1, 2);
        dueRange(13, 2, 0, 2);
        dueRange(6, 0, 1, 8);
        dueRange(9, 0, 0, 5);
        int[] classFirst = {10, 12, 18};
        for (int kind : classFirst) {
            dueRange(kind, 0, 0, 9);
        }
        dueRange(13, 1, 0, 9);
        dueRange(20, 0, 0, 1);
        dueRange(21, 0, 0, 1);
    }

    private static void ownClasses() {
        ThrowScenario x = withThreeNodes();
        Due.due("THROW of class 10 before it is declared", x.node(10, 10, 0, 0), ThrowScenario.REFUSED);
        x.declare(0);
        Due.due("THROW of class 10", x.node(10, 10, 0, 0), 3);
        Due.due("WRAP of class 10", x.node(12, 10, 0, 0), 4);
        Due.due("CAST to class 10", x.node(18, 10, 0, 0), 5);
        Due.due("TRY with class 10", x.node(13, 0, 10, 0), 6);
        Due.due("THROW of class 11", x.node(10, 11, 0, 0), ThrowScenario.REFUSED);
        Due.due("TRY with class 11", x.node(13, 0, 11, 0), ThrowScenario.REFUSED);
    }

    private static void nodesMustBeEarlier() {
        ThrowScenario x = new ThrowScenario(1);
        Due.due("SEQUENCE of itself", x.node(4, 0, 0, 0), ThrowScenario.REFUSED);
        Due.due("LOG", x.node(0, 0, 0, 0), 0);
        Due.due("SEQUENCE with itself as second", x.node(4, 0, 1, 0), ThrowScenario.REFUSED);
        Due.due("SEQUENCE of an earlier one", x.node(4, 0, 0, 0), 1);
    }

    /** A chain of LOOPs up to LEVEL 8: the node of LEVEL n has number n - 1. */
    private static ThrowScenario withEightLevels() {
        ThrowScenario x = new ThrowScenario(1);
        x.node(0, 0, 0, 0);
        for (int level = 2; level <= 8; level++) {
            Due.due("LOOP of LEVEL " + level, x.node(6, 1, level - 2, 0), level - 1);
        }
        return x;
    }

    private static void levels() {
        ThrowScenario x = withEightLevels();
        int[][] nine = {{4, 7, 0, 0}, {4, 0, 7, 0}, {5, 0, 7, 0}, {5, 0, 0, 7}, {5, 0, 7, -1}, {6, 1, 7, 0},
            {13, 7, 0, 0}, {13, 0, 0, 7}, {14, 7, 0, 0}, {14, 0, 7, 0}, {15, 7, 0, 0}, {15, 0, 7, 0}, {20, 0, 7, 0}};
        for (int[] n : nine) {
            Due.due("LEVEL 9, kind " + n[0], x.node(n[0], n[1], n[2], n[3]), ThrowScenario.REFUSED);
        }
        Due.due("count(1) after LEVEL 9", x.count(1), 8);
        int[][] eight = {{4, 6, 6, 7}, {5, 3, 6, 6}, {5, 3, 6, -1}, {6, 7, 6, 7}, {13, 6, 7, 6}, {14, 6, 6, 7},
            {15, 6, 6, 7}, {20, 1, 6, 7}};
        int made = 8;
        for (int[] n : eight) {
            Due.due("LEVEL 8, kind " + n[0], x.node(n[0], n[1], n[2], n[3]), made++);
        }
        int[][] one = {{0, 7, 7, 7}, {2, 3, 7, 7}, {9, 5, 7, 7}, {10, 7, 7, 7}, {11, 7, 7, 7}, {18, 7, 7, 7}, {22, 7, 7, 7}};
        for (int[] n : one) {
            Due.due("LEVEL 1, kind " + n[0], x.node(n[0], n[1], n[2], n[3]), made);
            Due.due("LEVEL 2 over kind " + n[0], x.node(6, 1, made, 0), made + 1);
            made += 2;
        }
    }

    private static void full() {
        ThrowScenario x = withEightLevels();
        for (int i = 8; i < 64; i++) {
            Due.due("node " + i, x.node(7, 0, 0, 0), i);
        }
        Due.due("node 64", x.node(7, 0, 0, 0), ThrowScenario.FULL);
        Due.due("node 64, SEQUENCE", x.node(4, 63, 63, 0), ThrowScenario.FULL);
        Due.due("node 64, wrong kind", x.node(23, 0, 0, 0), ThrowScenario.REFUSED);
        Due.due("node 64, wrong operand", x.node(4, 64, 0, 0), ThrowScenario.REFUSED);
        Due.due("node 64, LEVEL 9", x.node(6, 1, 7, 0), ThrowScenario.REFUSED);
        Due.due("count(1) when full", x.count(1), 64);
        Due.due("define of the last", x.define(0, 63), 0);
        Due.due("define of none", x.define(0, 64), ThrowScenario.REFUSED);
    }
}
