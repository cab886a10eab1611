/** Terms: what each kind of node does, at its edges too. */
public final class KindsTest {
    private static final int MIN = Integer.MIN_VALUE;
    private static final int MAX = Integer.MAX_VALUE;

    public static void main(String[] args) {
        log();
        show();
        set();
        add();
        sequence();
        chooses();
        loop();
        breaksAndReturns();
        throwing();
        wrap();
        tryAtLastAndResource();
        divide();
        divideTheLeast();
        divideByNone();
        index();
        cast();
        castOfNone();
        exit();
        lock();
        wake();
        wakeWithoutLock();
        origin();
        originOfNone();
        Due.finish();
    }

    private static void log() {
        Due.by("Terms", "0 LOG a: the int a is logged.");
        Scene s = new Scene(1);
        s.dueLog("LOG", s.all(s.log(MIN), s.log(-1), s.log(0), s.log(MAX)), "-2147483648 -1 0 2147483647");
    }

    private static void show() {
        Due.by("Terms", "1 SHOW: variable a (0 .. 3) is logged.");
        Scene s = new Scene(1);
        s.runs(s.all(s.set(2, 8), s.set(3, 9), s.show(3), s.show(2), s.show(1), s.show(0)), MIN, MAX);
        Due.dueText("the log", s.logText(), "9 8 2147483647 -2147483648");
    }

    private static void set() {
        Due.by("Terms", "2 SET variable a to the int b.");
        Scene s = new Scene(1);
        s.dueLog("SET", s.all(s.set(0, MIN), s.show(0), s.set(0, MAX), s.show(0), s.set(3, -4), s.show(3), s.show(2)),
            "-2147483648 2147483647 -4 0");
    }

    private static void add() {
        Due.by("Terms", "3 ADD the int b to variable a, wrapping.");
        int[][] sums = {{5, -7, -2}, {5, 0, 5}, {MAX, 1, MIN}, {MIN, -1, MAX}, {MIN, MIN, 0}, {MAX, MAX, -2}, {-1, MIN, MAX}};
        for (int[] row : sums) {
            Scene s = new Scene(1);
            s.runs(s.add(1, row[1]), 3, row[0]);
            Due.due(row[0] + " and " + row[1], s.x.variable(1), row[2]);
            Due.due("the one beside it", s.x.variable(0), 3);
        }
    }

    private static void sequence() {
        Due.by("Terms", "4 SEQUENCE: node a, then node b.");
        Scene s = new Scene(1);
        int one = s.log(1);
        int two = s.log(2);
        s.dueLog("one, two", s.sequence(one, two), "1 2");
        s.dueLog("two, one", s.sequence(two, one), "2 1");
        s.dueLog("one twice", s.sequence(one, one), "1 1");
    }

    private static void chooses() {
        Due.by("Terms", "5 IF variable a is not 0: node b, else node c (-1: nothing).");
        Scene s = new Scene(1);
        // node 0 is a node, not nothing
        int other = s.log(20);
        int both = s.choose(1, s.log(10), other);
        int alone = s.choose(1, other, Scene.NOTHING);
        int[] notZero = {1, -1, 256, MIN, MAX};
        for (int number : notZero) {
            s.runs(s.sequence(both, alone), 0, number);
            Due.dueText("IF " + number, s.logText(), "10 20");
        }
        s.runs(both, 1, 0);
        Due.dueText("IF 0, else node 0", s.logText(), "20");
        s.runs(s.sequence(alone, other), 1, 0);
        Due.dueText("IF 0, else nothing", s.logText(), "20");
        s.runs(alone, 1, 0);
        Due.due("nothing is no node that is begun", s.x.count(2), 1);
    }

    private static void loop() {
        Due.by("Terms", "6 LOOP: a (1 .. 8) times node b.");
        for (int times = 1; times <= 8; times++) {
            Scene s = new Scene(1);
            s.runs(s.loop(times, s.add(2, 1)));
            Due.due("LOOP " + times, s.x.variable(2), times);
            Due.due("nodes begun", s.x.count(2), times + 1);
        }
    }

    private static void breaksAndReturns() {
        Due.by("Terms", "7 BREAK. 8 RETURN the value of variable a.");
        Scene s = new Scene(1);
        Due.dueText("BREAK", s.wayOf(s.breaks()), "break");
        Due.dueText("RETURN of variable 0", s.wayOf(s.returns(0)), "return 5");
        Due.dueText("RETURN of variable 1", s.wayOf(s.returns(1)), "return 6");
        Due.dueText("RETURN of variable 2", s.wayOf(s.returns(2)), "return 0");
        Due.dueText("RETURN of variable 3", s.wayOf(s.sequence(s.set(3, MIN), s.returns(3))), "return -2147483648");
    }

    private static void throwing() {
        Due.by("Terms", "10 THROW a new THROWABLE of class a with message b, without cause.");
        Scene s = new Scene(1);
        s.dueReport("THROW", s.throwing(Scene.NULL, MIN), "uncaught Null(-2147483648)");
        s.dueReport("THROW in a handler", s.tryCatch(s.throwing(Scene.NULL, 1), 0, s.throwing(Scene.CAST, MAX)),
            "uncaught Cast(2147483647)");
        Due.due("each is a new one", s.x.count(3), 2);
    }

    private static void wrap() {
        Due.by("Terms", "12 WRAP: as THROW, but its cause is the THROWABLE AT HAND, if any.");
        Scene s = new Scene(1);
        s.dueReport("WRAP of none", s.wrap(Scene.CAST, MIN), "uncaught Cast(-2147483648)");
        Due.due("no cause", s.x.failure(1, 0), ThrowScenario.NONE);
        int wrapped = s.tryCatch(s.throwing(Scene.NULL, 1), 0, s.wrap(Scene.CAST, 2));
        s.dueReport("WRAP", wrapped, "uncaught Cast(2) from Null(1)");
        s.dueReport("WRAP of a WRAP", s.tryCatch(wrapped, 0, s.wrap(Scene.ERROR, 3)), "uncaught Error(3) from Cast(2) from Null(1)");
        Due.due("each is a new one", s.x.count(3), 3);
    }

    private static void tryAtLastAndResource() {
        Due.by("Terms", "13 TRY node a, catching class b by node c. 14 FINALLY: node a, at last node b."
            + " 15 RESOURCE: node a, then it is closed by node b.");
        Scene s = new Scene(1);
        int two = s.log(2);
        int one = s.log(1);
        int thrower = s.throwing(Scene.NULL, 3);
        s.dueLog("TRY", s.tryCatch(s.sequence(one, thrower), Scene.NULL, two), "1 2");
        s.dueLog("TRY without a throw", s.tryCatch(one, Scene.NULL, two), "1");
        s.dueLog("FINALLY", s.atLast(one, two), "1 2");
        s.dueLog("FINALLY with one node twice", s.atLast(one, one), "1 1");
        s.dueLog("RESOURCE", s.resource(one, two), "1 2");
        s.dueLog("RESOURCE with one node twice", s.resource(one, one), "1 1");
    }

    private static void dueQuotient(int divided, int by, int want) {
        Scene s = new Scene(1);
        Due.due("DIV completes", s.runs(s.div(0, 1), divided, by), ThrowScenario.ENDED);
        Due.due("DIV " + divided + " by " + by, s.x.variable(0), want);
        Due.due("the divisor stays", s.x.variable(1), by);
    }

    private static void divide() {
        Due.by("Terms", "16 DIV: variable a becomes itself divided by variable b (0 .. 3), truncated");
        int[][] quotients = {{7, 2, 3}, {-7, 2, -3}, {7, -2, -3}, {-7, -2, 3}, {1, 2, 0}, {-1, 2, 0}, {0, 5, 0}, {MIN, 1, MIN},
            {MIN, MIN, 1}, {MIN, MAX, -1}, {MAX, MIN, 0}, {MAX, -1, -MAX}};
        for (int[] row : quotients) {
            dueQuotient(row[0], row[1], row[2]);
        }
        Scene s = new Scene(1);
        s.runs(s.div(1, 1), 0, -6);
        Due.due("DIV by itself", s.x.variable(1), 1);
        s.runs(s.all(s.set(2, 100), s.set(3, 7), s.div(2, 3)), 1, 1);
        Due.due("variable 2 by variable 3", s.x.variable(2), 14);
        s.runs(s.all(s.set(3, 50), s.div(3, 0)), 5, 1);
        Due.due("variable 3 by variable 0", s.x.variable(3), 10);
    }

    private static void divideTheLeast() {
        Due.by("Terms", "(-2^31 by -1 gives -2^31)");
        dueQuotient(MIN, -1, MIN);
    }

    private static void divideByNone() {
        Due.by("Terms", "16 by 0 THROWS class 2, message 0.");
        int[] divided = {7, 0, -7, MIN, MAX};
        for (int number : divided) {
            Scene s = new Scene(1);
            s.dueReport("DIV " + number + " by 0", s.div(0, 1), number, 0, "uncaught Arithmetic(0)");
            Due.due("the variable stays", s.x.variable(0), number);
            Due.due("its class", s.x.failure(0, 0), Scene.ARITHMETIC);
        }
        Scene s = new Scene(1);
        s.dueReport("0 by itself", s.div(2, 2), 1, 1, "uncaught Arithmetic(0)");
    }

    private static void index() {
        Due.by("Terms", "17 THROWS class 3, its message the variable, if that is not 0 .. b - 1.");
        int[] tried = {MIN, -1, 0, 1, 2, 3, 4, 5, MAX};
        for (int places = 0; places <= 4; places++) {
            Scene s = new Scene(1);
            int node = s.index(1, places);
            for (int place : tried) {
                boolean inside = place >= 0 && place < places;
                s.dueReport("INDEX " + place + " of " + places, node, 2, place, inside ? "ended" : "uncaught Index(" + place + ")");
                Due.due("the variable stays", s.x.variable(1), place);
            }
        }
    }

    private static void cast() {
        Due.by("Terms", "18 THROWS class 4, its message the class of the one AT HAND, if that is not a's (IS)");
        Scene s = new Scene(1);
        s.x.declare(Scene.CAST);
        int thrower = s.throwing(10, 1);
        int[] fine = {10, Scene.CAST, Scene.RUNTIME, Scene.EXCEPTION, Scene.THROWABLE};
        for (int type : fine) {
            s.dueReport("CAST to " + type, s.tryCatch(thrower, 0, s.cast(type)), "ended");
        }
        int[] wrong = {Scene.NULL, Scene.ERROR, Scene.DEPTH, Scene.INDEX};
        for (int type : wrong) {
            s.dueReport("CAST to " + type, s.tryCatch(thrower, 0, s.cast(type)), "uncaught Cast(10)");
        }
        s.dueReport("CAST of a parent to a child", s.tryCatch(s.throwing(Scene.CAST, 1), 0, s.cast(10)), "uncaught Cast(4)");
        s.dueReport("CAST of class 0", s.tryCatch(s.throwing(0, 1), 0, s.cast(Scene.NULL)), "uncaught Cast(0)");
        Due.due("without cause", s.x.failure(1, 0), ThrowScenario.NONE);
    }

    private static void castOfNone() {
        Due.by("Terms", "none AT HAND: nothing.");
        Scene s = new Scene(1);
        s.dueLog("CAST of none", s.sequence(s.cast(Scene.NULL), s.log(1)), "1");
        Due.due("none was made", s.x.count(3), 0);
    }

    private static void exit() {
        Due.by("Terms", "19 EXIT with variable a.");
        Scene s = new Scene(1);
        s.dueReport("EXIT with variable 0", s.exit(0), 3, 4, "exit 3");
        s.dueReport("EXIT with variable 1", s.exit(1), 3, 4, "exit 4");
        s.dueReport("EXIT with variable 2", s.sequence(s.set(2, 5), s.exit(2)), 3, 4, "exit 5");
        s.dueReport("EXIT with variable 3", s.sequence(s.set(3, 6), s.exit(3)), 3, 4, "exit 6");
    }

    private static void lock() {
        Due.by("Terms", "20 LOCK: monitor a (0, 1) is HELD once more, node b, then once less, however b completes.");
        for (int m = 0; m <= 1; m++) {
            Scene s = new Scene(2);
            int wake = s.wake(m);
            String free = "uncaught Monitor(" + m + ")";
            s.dueLog("HELD", s.lock(m, wake), m == 0 ? "100" : "101");
            s.dueReport("left normally", s.sequence(s.lock(m, wake), wake), free);
            s.dueReport("left by a throw", s.tryCatch(s.lock(m, s.throwing(0, 1)), 0, wake), free);
            s.dueReport("left by a BREAK", s.sequence(s.loop(1, s.lock(m, s.breaks())), wake), free);
            s.routine(1, s.lock(m, s.returns(0)));
            s.dueReport("left by a RETURN", s.sequence(s.call(1), wake), free);
            s.runs(s.lock(m, s.throwing(0, 1)));
            Due.due("left at the end", s.x.count(8 + m), 0);
            s.routine(1, wake);
            s.dueLog("HELD in a CALLED routine", s.lock(m, s.call(1)), m == 0 ? "100" : "101");
        }
    }

    private static void wake() {
        Due.by("Terms", "21 NOTIFY monitor a: 100 plus a is logged.");
        Scene s = new Scene(1);
        s.dueLog("NOTIFY", s.lock(0, s.lock(1, s.sequence(s.wake(0), s.wake(1)))), "100 101");
    }

    private static void wakeWithoutLock() {
        Due.by("Terms", "21 THROWS class 6, message a, if the monitor is not HELD.");
        for (int m = 0; m <= 1; m++) {
            Scene s = new Scene(1);
            String want = "uncaught Monitor(" + m + ")";
            s.dueReport("never HELD", s.wake(m), want);
            Due.due("its class", s.x.failure(0, 0), Scene.MONITOR);
            Due.due("nothing is logged", s.x.count(7), 0);
            s.dueReport("the other one is HELD", s.lock(1 - m, s.wake(m)), want);
            s.dueReport("HELD no more", s.sequence(s.lock(m, s.wake(m)), s.wake(m)), want);
        }
    }

    private static void origin() {
        Due.by("Terms", "22 ORIGIN: the class of the last one in the cause chain of the THROWABLE AT HAND is logged");
        Scene s = new Scene(1);
        s.x.declare(0);
        s.dueLog("of one without cause", s.tryCatch(s.throwing(10, 1), 0, s.origin()), "10");
        int wrapped = s.tryCatch(s.throwing(10, 1), 0, s.wrap(Scene.NULL, 2));
        s.dueLog("of two", s.tryCatch(wrapped, 0, s.origin()), "10");
        int twice = s.tryCatch(wrapped, 0, s.wrap(Scene.ERROR, 3));
        s.dueLog("of three", s.tryCatch(twice, Scene.ERROR, s.origin()), "10");
        s.dueLog("of class 0", s.tryCatch(s.throwing(0, 1), 0, s.origin()), "0");
    }

    private static void originOfNone() {
        Due.by("Terms", "is logged, if there is one AT HAND.");
        Scene s = new Scene(1);
        s.dueLog("ORIGIN of none", s.sequence(s.origin(), s.log(1)), "1");
    }
}
