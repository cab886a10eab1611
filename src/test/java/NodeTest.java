/** Promise 3: node. */
public final class NodeTest {
    private static final String SECTION = "Promise 3: node";
    private static final int MIN = Integer.MIN_VALUE;
    private static final int MAX = Integer.MAX_VALUE;

    public static void main(String[] args) {
        everyKind();
        noKind();
        wrongOperand();
        levelNine();
        full();
        fullIsTestedLast();
        Due.finish();
    }

    /** Two nodes of LEVEL 1, so that every kind finds operands. */
    private static ThrowScenario withTwoNodes() {
        Scene s = new Scene(1);
        s.log(1);
        s.log(2);
        return s.x;
    }

    private static void everyKind() {
        Due.by(SECTION, "Makes a node: its number.");
        ThrowScenario x = withTwoNodes();
        for (int kind = 0; kind <= 22; kind++) {
            Due.due("node(" + kind + ", 1, 1, 1)", x.node(kind, 1, 1, 1), 2 + kind);
        }
    }

    private static void noKind() {
        Due.by(SECTION, "A kind out of 0 .. 22");
        ThrowScenario x = withTwoNodes();
        int[] none = {MIN, -23, -2, -1, 23, 24, 255, MAX};
        for (int kind : none) {
            Due.due("node(" + kind + ", 1, 1, 1)", x.node(kind, 1, 1, 1), ThrowScenario.REFUSED);
        }
        Due.due("count(1) after them", x.count(1), 2);
    }

    /** The ranges of all operands are tested with the terms; here one that is wrong in each place. */
    private static void wrongOperand() {
        Due.by(SECTION, "or an operand that is not as said");
        int[][] wrong = {{1, 4, 0, 0}, {2, -1, 0, 0}, {3, 4, 0, 0}, {4, 2, 0, 0}, {4, 0, 2, 0}, {5, 4, 0, 0}, {5, 0, 2, 0}, {5, 0, -1, 0},
            {5, 0, 0, 2}, {5, 0, 0, -2}, {6, 0, 0, 0}, {6, 9, 0, 0}, {6, 1, 2, 0}, {8, 4, 0, 0}, {9, 6, 0, 0}, {9, -1, 0, 0},
            {10, 10, 0, 0}, {10, -1, 0, 0}, {12, 10, 0, 0}, {13, 2, 0, 0}, {13, 0, 10, 0}, {13, 0, 0, 2}, {13, 0, 0, -1},
            {14, 2, 0, 0}, {14, 0, 2, 0}, {15, 2, 0, 0}, {15, 0, 2, 0}, {16, 4, 0, 0}, {16, 0, 4, 0}, {17, 4, 0, 0}, {17, 0, 5, 0},
            {17, 0, -1, 0}, {18, 10, 0, 0}, {19, 4, 0, 0}, {20, 2, 0, 0}, {20, 0, 2, 0}, {21, 2, 0, 0}, {21, -1, 0, 0}};
        ThrowScenario x = withTwoNodes();
        for (int[] n : wrong) {
            Due.due("node(" + n[0] + ", " + n[1] + ", " + n[2] + ", " + n[3] + ")", x.node(n[0], n[1], n[2], n[3]), ThrowScenario.REFUSED);
        }
        Due.due("count(1) after them", x.count(1), 2);
    }

    /** Nodes 0 .. 7 of LEVEL 1 .. 8. */
    private static ThrowScenario withEightLevels() {
        Scene s = new Scene(1);
        int node = s.log(1);
        for (int level = 2; level <= 8; level++) {
            node = s.lock(0, node);
        }
        return s.x;
    }

    private static void levelNine() {
        Due.by(SECTION, "or LEVEL 9: REFUSED.");
        int[][] overTheLast = {{4, 7, 0, 0}, {4, 0, 7, 0}, {5, 0, 7, 0}, {5, 0, 0, 7}, {6, 1, 7, 0}, {13, 7, 0, 0}, {13, 0, 0, 7},
            {14, 7, 0, 0}, {14, 0, 7, 0}, {15, 7, 0, 0}, {15, 0, 7, 0}, {20, 0, 7, 0}};
        ThrowScenario x = withEightLevels();
        for (int[] n : overTheLast) {
            Due.due("LEVEL 9, kind " + n[0], x.node(n[0], n[1], n[2], n[3]), ThrowScenario.REFUSED);
        }
        Due.due("LEVEL 8", x.node(14, 6, 6, 0), 8);
        Due.due("LEVEL 9 over that", x.node(14, 0, 8, 0), ThrowScenario.REFUSED);
    }

    private static ThrowScenario whenFull() {
        ThrowScenario x = withEightLevels();
        while (x.count(1) < 64) {
            x.node(7, 0, 0, 0);
        }
        return x;
    }

    private static void full() {
        Due.by(SECTION, "64 nodes: FULL");
        ThrowScenario x = withEightLevels();
        for (int i = 8; i < 64; i++) {
            Due.due("node " + i, x.node(7, 0, 0, 0), i);
        }
        Due.due("a 65th node", x.node(7, 0, 0, 0), ThrowScenario.FULL);
        Due.due("a 65th node of the last two", x.node(4, 62, 63, 0), ThrowScenario.FULL);
        Due.due("a 65th node of LEVEL 8", x.node(6, 1, 6, 0), ThrowScenario.FULL);
        Due.due("count(1)", x.count(1), 64);
        Due.due("define of the 64th", x.define(0, 63), 0);
        Due.due("define of a 65th", x.define(0, 64), ThrowScenario.REFUSED);
    }

    private static void fullIsTestedLast() {
        Due.by(SECTION, "64 nodes: FULL (tested last).");
        ThrowScenario x = whenFull();
        int[][] refused = {{-1, 0, 0, 0}, {23, 0, 0, 0}, {1, 4, 0, 0}, {4, 64, 0, 0}, {4, 0, 64, 0}, {6, 9, 0, 0}, {10, 10, 0, 0},
            {13, 0, 10, 0}, {21, 2, 0, 0}, {6, 1, 7, 0}, {14, 0, 7, 0}, {5, 0, 7, -1}};
        for (int[] n : refused) {
            Due.due("node(" + n[0] + ", " + n[1] + ", " + n[2] + ", " + n[3] + ") when full", x.node(n[0], n[1], n[2], n[3]),
                ThrowScenario.REFUSED);
        }
    }
}
