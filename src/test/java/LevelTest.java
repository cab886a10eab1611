/** Terms: the LEVEL of a node, which is 8 at most. */
public final class LevelTest {
    public static void main(String[] args) {
        without();
        oneMoreThanTheGreatest();
        atMostEight();
        nothingHasNoLevel();
        Due.finish();
    }

    /** A chain of LOOPs up to LEVEL 8: the node of LEVEL n has number n - 1. */
    private static ThrowScenario withEightLevels() {
        Scene s = new Scene(1);
        int node = s.log(0);
        for (int level = 2; level <= 8; level++) {
            node = s.loop(1, node);
        }
        return s.x;
    }

    private static void without() {
        Due.by("Terms", "The LEVEL of a node is 1 without operand nodes");
        int[][] plain = {{0, 7}, {1, 3}, {2, 3}, {3, 3}, {7, 7}, {8, 3}, {9, 5}, {10, 7}, {11, 7}, {12, 7}, {16, 3}, {17, 3},
            {18, 7}, {19, 3}, {21, 1}, {22, 7}};
        for (int[] row : plain) {
            ThrowScenario x = withEightLevels();
            // operands that would make LEVEL 9 if they were taken for nodes
            Due.due("kind " + row[0], x.node(row[0], row[1], row[0] == 16 || row[0] == 17 ? 3 : 7, 7), 8);
            for (int level = 2; level <= 8; level++) {
                Due.due("LEVEL " + level + " over kind " + row[0], x.node(6, 1, x.count(1) - 1, 0), 7 + level);
            }
            Due.due("LEVEL 9 over kind " + row[0], x.node(6, 1, x.count(1) - 1, 0), ThrowScenario.REFUSED);
        }
    }

    /** Operands low and high are nodes of LEVEL 1 and 7, in either order. */
    private static void oneMoreThanTheGreatest() {
        Due.by("Terms", "else 1 more than the greatest of theirs");
        int[][] eight = {{4, 6, 0, 7}, {4, 0, 6, 7}, {4, 6, 6, 7}, {5, 3, 6, 0}, {5, 3, 0, 6}, {5, 3, 6, -1}, {6, 7, 6, 7},
            {13, 6, 7, 0}, {13, 0, 7, 6}, {14, 6, 0, 7}, {14, 0, 6, 7}, {15, 6, 0, 7}, {15, 0, 6, 7}, {20, 1, 6, 7}};
        for (int[] n : eight) {
            ThrowScenario x = withEightLevels();
            Due.due("LEVEL 8, kind " + n[0], x.node(n[0], n[1], n[2], n[3]), 8);
            Due.due("LOOP of that, LEVEL 9", x.node(6, 1, 8, 0), ThrowScenario.REFUSED);
        }
        int[][] two = {{4, 0, 0, 7}, {5, 0, 0, 0}, {6, 1, 0, 7}, {13, 0, 7, 0}, {14, 0, 0, 7}, {15, 0, 0, 7}, {20, 1, 0, 7}};
        for (int[] n : two) {
            ThrowScenario x = withEightLevels();
            Due.due("LEVEL 2, kind " + n[0], x.node(n[0], n[1], n[2], n[3]), 8);
            for (int level = 3; level <= 8; level++) {
                Due.due("LEVEL " + level + " over it", x.node(6, 1, x.count(1) - 1, 0), 6 + level);
            }
            Due.due("LEVEL 9 over it", x.node(6, 1, x.count(1) - 1, 0), ThrowScenario.REFUSED);
        }
    }

    private static void atMostEight() {
        Due.by("Terms", "else 1 more than the greatest of theirs; at most 8.");
        int[][] nine = {{4, 7, 0, 0}, {4, 0, 7, 0}, {5, 0, 7, 0}, {5, 0, 0, 7}, {5, 0, 7, -1}, {6, 1, 7, 0},
            {13, 7, 0, 0}, {13, 0, 0, 7}, {14, 7, 0, 0}, {14, 0, 7, 0}, {15, 7, 0, 0}, {15, 0, 7, 0}, {20, 0, 7, 0}};
        ThrowScenario x = withEightLevels();
        for (int[] n : nine) {
            Due.due("LEVEL 9, kind " + n[0], x.node(n[0], n[1], n[2], n[3]), ThrowScenario.REFUSED);
        }
        Due.due("count(1) after them", x.count(1), 8);
    }

    private static void nothingHasNoLevel() {
        Due.by("Terms", "else node c (-1: nothing)");
        ThrowScenario x = new ThrowScenario(1);
        x.node(0, 0, 0, 0);
        for (int level = 2; level <= 8; level++) {
            Due.due("IF of LEVEL " + level + " with nothing", x.node(5, 0, level - 2, -1), level - 1);
        }
        Due.due("IF of LEVEL 9 with nothing", x.node(5, 0, 7, -1), ThrowScenario.REFUSED);
    }
}
