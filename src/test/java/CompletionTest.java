/** Terms: HOW A NODE COMPLETES. */
public final class CompletionTest {
    /** How the parts of the tables below complete, first and second part. */
    private static final String[] FIRST = {"normally", "break", "return 5", "uncaught Index(1)"};
    private static final String[] SECOND = {"normally", "break", "return 6", "uncaught Cast(2)"};
    private static final int THROWS = 3;

    public static void main(String[] args) {
        normally();
        inTheOrderTold();
        aPartEndsTheNode();
        breakEndsTheLoop();
        catching();
        completesAsTheHandler();
        atLast();
        atLastKeepsWhatItHad();
        closing();
        suppressing();
        closingElse();
        rethrow();
        rethrowOfNone();
        Due.finish();
    }

    private static int firstPart(Scene s, int way) {
        switch (way) {
            case 0: return s.log(1);
            case 1: return s.breaks();
            case 2: return s.returns(0);
            default: return s.throwing(Scene.INDEX, 1);
        }
    }

    private static int secondPart(Scene s, int way) {
        switch (way) {
            case 0: return s.log(2);
            case 1: return s.breaks();
            case 2: return s.returns(1);
            default: return s.throwing(Scene.CAST, 2);
        }
    }

    private static void normally() {
        Due.by("Terms", "What is not said otherwise completes normally.");
        Scene s = new Scene(1);
        Due.dueText("LOG", s.wayOf(s.log(1)), "normally");
        Due.dueText("SHOW", s.wayOf(s.show(1)), "normally");
        Due.dueText("SET", s.wayOf(s.set(2, 0)), "normally");
        Due.dueText("ADD", s.wayOf(s.add(2, 0)), "normally");
        Due.dueText("IF without its part", s.wayOf(s.choose(2, s.breaks(), Scene.NOTHING)), "normally");
        Due.dueText("DIV", s.wayOf(s.div(0, 1)), "normally");
        Due.dueText("INDEX", s.wayOf(s.index(2, 1)), "normally");
        Due.dueText("CAST", s.wayOf(s.cast(1)), "normally");
        Due.dueText("NOTIFY", s.wayOf(s.lock(0, s.wake(0))), "normally");
        Due.dueText("ORIGIN", s.wayOf(s.origin()), "normally");
    }

    private static void inTheOrderTold() {
        Due.by("Terms", "The parts of a node are done in the order told");
        Scene s = new Scene(1);
        int second = s.sequence(s.add(2, 2), s.show(2));
        int first = s.sequence(s.add(2, 1), s.show(2));
        int throwing = s.sequence(first, s.throwing(0, 0));
        s.dueLog("SEQUENCE", s.sequence(first, second), "1 3");
        s.dueLog("FINALLY", s.atLast(first, second), "1 3");
        s.dueLog("FINALLY that throws", s.atLast(throwing, second), "1 3");
        s.dueLog("RESOURCE", s.resource(first, second), "1 3");
        s.dueLog("RESOURCE that throws", s.resource(throwing, second), "1 3");
        s.dueLog("TRY", s.tryCatch(throwing, 0, second), "1 3");
        s.dueLog("one in the other", s.atLast(s.resource(first, second), s.loop(2, first)), "1 3 4 5");
    }

    private static void aPartEndsTheNode() {
        Due.by("Terms", "a part that doesn't complete normally ends the node in that way");
        for (int way = 0; way <= THROWS; way++) {
            Scene s = new Scene(1);
            int part = firstPart(s, way);
            int other = s.log(3);
            Due.dueText("SEQUENCE by its first", s.wayOf(s.sequence(part, other)), FIRST[way]);
            Due.due("its second is done", s.x.count(2), way == 0 ? 6 : 4);
            Due.dueText("SEQUENCE by its second", s.wayOf(s.sequence(other, part)), FIRST[way]);
            Due.dueText("IF that is not 0", s.wayOf(s.choose(0, part, other)), FIRST[way]);
            Due.dueText("IF that is 0", s.wayOf(s.choose(2, other, part)), FIRST[way]);
            Due.dueText("LOCK", s.wayOf(s.lock(0, part)), FIRST[way]);
            Due.dueText("TRY that does not catch", s.wayOf(s.tryCatch(part, Scene.ERROR, other)), FIRST[way]);
            if (way != 1) {
                Due.dueText("LOOP", s.wayOf(s.loop(2, part)), FIRST[way]);
                Due.due("its part is done", s.x.count(2), way == 0 ? 6 : 4);
            }
        }
    }

    private static void breakEndsTheLoop() {
        Due.by("Terms", "6: BREAK of its part ends the LOOP, normally.");
        Scene s = new Scene(1);
        Due.dueText("LOOP", s.wayOf(s.loop(8, s.breaks())), "normally");
        Due.due("it is ended at once", s.x.count(2), 5);
        int breaksAtTwo = s.all(s.add(0, 1), s.show(0), s.choose(1, s.breaks(), Scene.NOTHING), s.set(1, 1));
        s.dueLog("the second time", s.sequence(s.loop(5, breaksAtTwo), s.log(9)), "1 2 9");
        s.dueLog("the innermost alone", s.loop(2, s.sequence(s.loop(5, s.breaks()), s.log(4))), "4 4");
        s.dueReport("no LOOP around it", s.sequence(s.breaks(), s.log(1)), "ended");
        Due.due("nothing is done behind it", s.x.count(7), 0);
    }

    private static void catching() {
        Due.by("Terms", "13: if a THROWS one whose class IS b, it is caught: c is done with it AT HAND");
        Scene s = new Scene(1);
        int thrower = s.throwing(Scene.NULL, 1);
        s.dueLog("nothing is thrown", s.sequence(s.tryCatch(s.log(1), 0, s.log(2)), s.log(3)), "1 3");
        Due.due("no handler", s.x.count(4), 0);
        int[] caught = {Scene.NULL, Scene.RUNTIME, Scene.EXCEPTION, Scene.THROWABLE};
        for (int type : caught) {
            s.dueLog("caught as " + type, s.tryCatch(thrower, type, s.origin()), "1");
        }
        int[] missed = {Scene.ERROR, Scene.ARITHMETIC};
        for (int type : missed) {
            s.dueReport("not caught as " + type, s.tryCatch(thrower, type, s.origin()), "uncaught Null(1)");
        }
        s.dueLog("by the outer one", s.tryCatch(s.tryCatch(thrower, Scene.ERROR, s.log(2)), Scene.NULL, s.log(3)), "3");
        s.dueReport("what a handler throws", s.tryCatch(thrower, 0, s.throwing(Scene.NULL, 2)), "uncaught Null(2)");
        Due.due("is not caught by it", s.x.count(4), 1);
    }

    private static void completesAsTheHandler() {
        Due.by("Terms", "and the TRY completes as c does.");
        for (int way = 0; way <= THROWS; way++) {
            Scene s = new Scene(1);
            Due.dueText("TRY", s.wayOf(s.tryCatch(s.throwing(0, 9), 0, secondPart(s, way))), SECOND[way]);
        }
    }

    private static void atLast() {
        Due.by("Terms", "14: b is done however a completes; if b doesn't complete normally, the FINALLY completes as b does, else as a did.");
        for (int first = 0; first <= THROWS; first++) {
            for (int second = 0; second <= THROWS; second++) {
                Scene s = new Scene(1);
                String way = s.wayOf(s.atLast(firstPart(s, first), secondPart(s, second)));
                Due.dueText("FINALLY, " + FIRST[first] + " and " + SECOND[second], way, second == 0 ? FIRST[first] : SECOND[second]);
                Due.due("its second part is done", s.x.count(5), 1);
            }
        }
    }

    private static void atLastKeepsWhatItHad() {
        Due.by("Terms", "the FINALLY completes as b does, else as a did.");
        Scene s = new Scene(2);
        int thrower = s.throwing(Scene.INDEX, 1);
        int caught = s.tryCatch(s.throwing(Scene.ERROR, 9), 0, s.log(1));
        Due.dueText("a throw caught in b", s.wayOf(s.atLast(thrower, caught)), "uncaught Index(1)");
        s.routine(1, s.returns(1));
        Due.dueText("a RETURN of a CALL in b", s.wayOf(s.atLast(s.returns(0), s.call(1))), "return 5");
        Due.due("which set variable 0", s.x.variable(0), 6);
        Due.dueText("a SET in b", s.wayOf(s.atLast(s.returns(0), s.set(0, 99))), "return 5");
        Due.dueText("a BREAK within b", s.wayOf(s.atLast(s.returns(0), s.loop(3, s.breaks()))), "return 5");
    }

    private static void closing() {
        Due.by("Terms", "15: b is done however a completes.");
        for (int first = 0; first <= THROWS; first++) {
            Scene s = new Scene(1);
            Due.dueText("RESOURCE, " + FIRST[first], s.wayOf(s.resource(firstPart(s, first), s.add(2, 1))), FIRST[first]);
            Due.due("it was closed once", s.x.variable(2), 1);
            Due.due("second parts", s.x.count(5), 1);
        }
        Scene s = new Scene(1);
        s.dueLog("closed in turn", s.resource(s.resource(s.log(0), s.log(5)), s.log(6)), "0 5 6");
    }

    private static void suppressing() {
        Due.by("Terms", "If a THROWS: if b THROWS too, a's has one suppressed more; the RESOURCE completes as a did whatever b does.");
        for (int second = 0; second <= THROWS; second++) {
            Scene s = new Scene(1);
            String way = s.wayOf(s.resource(firstPart(s, THROWS), secondPart(s, second)));
            Due.dueText("RESOURCE that throws, closed by " + SECOND[second], way, second == THROWS ? "uncaught Index(1)+1" : "uncaught Index(1)");
            Due.due("suppressed", s.x.failure(0, 2), second == THROWS ? 1 : 0);
        }
        Scene s = new Scene(1);
        int first = s.throwing(Scene.INDEX, 1);
        int other = s.throwing(Scene.CAST, 2);
        int once = s.resource(first, other);
        Due.dueText("three times", s.wayOf(s.resource(s.resource(once, other), other)), "uncaught Index(1)+3");
        Due.dueText("thrown again", s.wayOf(s.tryCatch(once, 0, s.resource(s.rethrow(), other))), "uncaught Index(1)+2");
        Due.dueText("caught in b", s.wayOf(s.resource(first, s.tryCatch(other, 0, s.log(1)))), "uncaught Index(1)");
        Due.dueText("the same from both", s.wayOf(s.tryCatch(first, 0, s.resource(s.rethrow(), s.rethrow()))), "uncaught Index(1)+1");
        Due.dueText("b's own suppressed are not a's", s.wayOf(s.resource(first, s.resource(other, other))), "uncaught Index(1)+1");
    }

    private static void closingElse() {
        Due.by("Terms", "Else it completes as b does if b doesn't complete normally, else as a did.");
        for (int first = 0; first < THROWS; first++) {
            for (int second = 0; second <= THROWS; second++) {
                Scene s = new Scene(1);
                String way = s.wayOf(s.resource(firstPart(s, first), secondPart(s, second)));
                Due.dueText("RESOURCE, " + FIRST[first] + " and " + SECOND[second], way, second == 0 ? FIRST[first] : SECOND[second]);
            }
        }
        Scene s = new Scene(2);
        s.routine(1, s.returns(1));
        Due.dueText("a RETURN of a CALL in b", s.wayOf(s.resource(s.returns(0), s.call(1))), "return 5");
    }

    private static void rethrow() {
        Due.by("Terms", "11 THROWS the THROWABLE AT HAND itself");
        Scene s = new Scene(1);
        int closed = s.resource(s.throwing(Scene.INDEX, 1), s.throwing(Scene.CAST, 2));
        s.dueReport("RETHROW", s.tryCatch(closed, 0, s.rethrow()), "uncaught Index(1)+1");
        Due.due("no new one is made", s.x.count(3), 2);
        int wrapped = s.tryCatch(closed, 0, s.wrap(Scene.NULL, 3));
        s.dueReport("RETHROW of a chain", s.tryCatch(wrapped, 0, s.rethrow()), "uncaught Null(3) from Index(1)+1");
    }

    private static void rethrowOfNone() {
        Due.by("Terms", "none: class 1, message 0.");
        Scene s = new Scene(1);
        s.dueReport("RETHROW of none", s.rethrow(), "uncaught Null(0)");
        Due.due("its class", s.x.failure(0, 0), Scene.NULL);
        Due.due("its message", s.x.failure(0, 1), 0);
        Due.due("one was made", s.x.count(3), 1);
    }
}
