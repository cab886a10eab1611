/** Promise 2: declare. */
public final class DeclareTest {
    private static final String SECTION = "Promise 2: declare";

    public static void main(String[] args) {
        itsNumber();
        everyParent();
        noSuchParent();
        full();
        noSuchParentWhenFull();
        Due.finish();
    }

    private static ThrowScenario withOwn(int classes) {
        ThrowScenario x = new ThrowScenario(1);
        for (int i = 0; i < classes; i++) {
            x.declare(0);
        }
        return x;
    }

    private static void itsNumber() {
        Due.by(SECTION, "Declares an own class with a parent that there is: its number.");
        ThrowScenario x = new ThrowScenario(1);
        for (int own = 10; own <= 15; own++) {
            Due.due("declare(0)", x.declare(0), own);
            Due.due("count(0)", x.count(0), own + 1);
        }
    }

    private static void everyParent() {
        Due.by(SECTION, "Declares an own class with a parent that there is");
        for (int own = 0; own <= 5; own++) {
            for (int parent = 0; parent < 10 + own; parent++) {
                Due.due("declare(" + parent + ") with " + own + " own ones", withOwn(own).declare(parent), 10 + own);
            }
        }
    }

    private static void noSuchParent() {
        Due.by(SECTION, "No such parent: REFUSED.");
        for (int own = 0; own <= 5; own++) {
            int[] missing = {Integer.MIN_VALUE, -2, -1, 10 + own, 11 + own, 16, Integer.MAX_VALUE};
            for (int parent : missing) {
                ThrowScenario x = withOwn(own);
                Due.due("declare(" + parent + ") with " + own + " own ones", x.declare(parent), ThrowScenario.REFUSED);
                Due.due("count(0) after it", x.count(0), 10 + own);
                Due.due("declare(0) after it", x.declare(0), 10 + own);
            }
        }
    }

    private static void full() {
        Due.by(SECTION, "6 own classes: FULL.");
        ThrowScenario x = withOwn(6);
        for (int parent = 0; parent <= 15; parent++) {
            Due.due("declare(" + parent + ") with 6 own ones", x.declare(parent), ThrowScenario.FULL);
        }
        Due.due("count(0)", x.count(0), 16);
        Due.due("node(10, 16, 0, 0)", x.node(10, 16, 0, 0), ThrowScenario.REFUSED);
    }

    /** The document tells this answer before the one for 6 own classes. */
    private static void noSuchParentWhenFull() {
        Due.by(SECTION, "No such parent: REFUSED. 6 own classes: FULL.");
        int[] missing = {Integer.MIN_VALUE, -1, 16, Integer.MAX_VALUE};
        for (int parent : missing) {
            Due.due("declare(" + parent + ") with 6 own ones", withOwn(6).declare(parent), ThrowScenario.REFUSED);
        }
    }
}
