/**
 * Runs small scenarios of statements that complete in every way there is and tells the outcome,
 * cause chains and a report. The promises are told in the document DOC.md.
 */
public final class ThrowScenario {
    public static final int REFUSED = -1;
    public static final int FULL = -2;
    public static final int ENDED = 0;
    public static final int UNCAUGHT = 1;
    public static final int DISPATCHED = 2;
    public static final int HANDLER_THREW = 3;
    public static final int EXITED = 4;
    public static final int TIRED = 5;
    public static final long NONE = 1000000000000L;

    private static final int MOST_DEPTH = 12;
    private static final int NO_ROUTINE = -1;
    private static final int LENGTH_ASKED = -1;

    private final Classes classes = new Classes();
    private final Program program = new Program(classes);
    private final Report text = new Report();
    private final Machine machine;
    private int dispatchedTo = NO_ROUTINE;
    private long told = NONE;
    private Thrown firstThrown;
    private Thrown secondThrown;

    public ThrowScenario(int limit) {
        machine = new Machine(program, classes, Math.max(1, Math.min(MOST_DEPTH, limit)));
    }

    public int declare(int parent) {
        if (!classes.has(parent)) {
            return REFUSED;
        }
        return classes.isFull() ? FULL : classes.add(parent);
    }

    public int node(int kind, int a, int b, int c) {
        if (!program.fits(kind, a, b, c) || program.levelOf(kind, a, b, c) > Program.MOST_LEVEL) {
            return REFUSED;
        }
        return program.isFull() ? FULL : program.add(kind, a, b, c);
    }

    public int define(int r, int node) {
        if (!Program.isRoutine(r) || !program.isNode(node)) {
            return REFUSED;
        }
        program.setStatement(r, node);
        return 0;
    }

    public int dispatch(int r) {
        if (r != NO_ROUTINE && !Program.isRoutine(r)) {
            return REFUSED;
        }
        dispatchedTo = r;
        return 0;
    }

    public int run(int r, int a, int b) {
        if (!program.isDefined(r)) {
            return REFUSED;
        }
        machine.prepare(a, b);
        firstThrown = null;
        secondThrown = null;
        Way way = machine.performRoutine(r, null);
        int outcome = way == Way.THROWING ? afterFailure(machine.thrown()) : outcomeOf(way, ENDED);
        boolean tells = way == Way.RETURN || outcome == EXITED;
        told = tells ? machine.carried() : NONE;
        text.write(outcome, told, firstThrown, secondThrown);
        return outcome;
    }

    private int afterFailure(Thrown failed) {
        firstThrown = failed;
        if (!program.isDefined(dispatchedTo)) {
            return UNCAUGHT;
        }
        Way way = machine.performRoutine(dispatchedTo, failed);
        if (way == Way.THROWING) {
            secondThrown = machine.thrown();
            return HANDLER_THREW;
        }
        return outcomeOf(way, DISPATCHED);
    }

    private static int outcomeOf(Way way, int completed) {
        if (way == Way.EXIT) {
            return EXITED;
        }
        return way == Way.TIRING ? TIRED : completed;
    }

    public long variable(int v) {
        return Program.isVariable(v) ? machine.variableAt(v) : NONE;
    }

    public long value() {
        return told;
    }

    public long logged(int k) {
        return k >= 0 && k < machine.logSize() ? machine.logAt(k) : NONE;
    }

    public long failure(int k, int what) {
        return partOf(firstThrown, k, what);
    }

    public long second(int k, int what) {
        return partOf(secondThrown, k, what);
    }

    private static long partOf(Thrown first, int k, int what) {
        Thrown asked = k < 0 ? null : first;
        for (int i = 0; i < k && asked != null; i++) {
            asked = asked.cause;
        }
        if (asked == null) {
            return NONE;
        }
        switch (what) {
            case 0: return asked.type;
            case 1: return asked.message;
            case 2: return asked.suppressed;
            default: return NONE;
        }
    }

    public int report(int i) {
        if (i == LENGTH_ASKED) {
            return text.length();
        }
        return i >= 0 && i < text.length() ? text.characterAt(i) : REFUSED;
    }

    public int count(int what) {
        switch (what) {
            case 0: return classes.size();
            case 1: return program.size();
            default: return machine.tally(what);
        }
    }

    /** The kinds of nodes, by the document's numbers. */
    private static final class Kind {
        static final int LOG = 0;
        static final int SHOW = 1;
        static final int SET = 2;
        static final int ADD = 3;
        static final int SEQUENCE = 4;
        static final int IF = 5;
        static final int LOOP = 6;
        static final int BREAK = 7;
        static final int RETURN = 8;
        static final int CALL = 9;
        static final int THROW = 10;
        static final int RETHROW = 11;
        static final int WRAP = 12;
        static final int TRY = 13;
        static final int FINALLY = 14;
        static final int RESOURCE = 15;
        static final int DIV = 16;
        static final int INDEX = 17;
        static final int CAST = 18;
        static final int EXIT = 19;
        static final int LOCK = 20;
        static final int NOTIFY = 21;
        static final int ORIGIN = 22;

        private Kind() {
        }
    }

    /** How a node completes; EXIT and TIRING are the two that end the run at once. */
    private enum Way {
        NORMALLY(false), BREAK(false), RETURN(false), THROWING(false), EXIT(true), TIRING(true);

        final boolean endsRun;

        Way(boolean endsRun) {
            this.endsRun = endsRun;
        }
    }

    /** The document's THROWABLE. */
    private static final class Thrown {
        int type;
        int message;
        Thrown cause;
        int suppressed;

        void become(int newType, int newMessage, Thrown newCause) {
            type = newType;
            message = newMessage;
            cause = newCause;
            suppressed = 0;
        }

        Thrown origin() {
            Thrown last = this;
            while (last.cause != null) {
                last = last.cause;
            }
            return last;
        }
    }

    /** The classes of throwables that there are. */
    private static final class Classes {
        static final int NULL = 1;
        static final int ARITHMETIC = 2;
        static final int INDEX = 3;
        static final int CAST = 4;
        static final int DEPTH = 5;
        static final int MONITOR = 6;

        private static final int GIVEN = 10;
        private static final int MOST = 16;
        private static final int[] GIVEN_PARENTS = {-1, 7, 7, 7, 7, 8, 7, 9, 0, 0};

        private final int[] parents = new int[MOST];
        private int size = GIVEN;

        Classes() {
            System.arraycopy(GIVEN_PARENTS, 0, parents, 0, GIVEN);
        }

        int size() {
            return size;
        }

        boolean has(int type) {
            return type >= 0 && type < size;
        }

        boolean isFull() {
            return size == MOST;
        }

        int add(int parent) {
            parents[size] = parent;
            size++;
            return size - 1;
        }

        boolean is(int type, int other) {
            int at = type;
            for (int steps = 0; steps < MOST && has(at) && at != other; steps++) {
                at = parents[at];
            }
            return at == other;
        }

        static boolean isOwn(int type) {
            return type >= GIVEN;
        }

        static String wordOf(int type) {
            switch (type) {
                case 0: return "Throwable";
                case NULL: return "Null";
                case ARITHMETIC: return "Arithmetic";
                case INDEX: return "Index";
                case CAST: return "Cast";
                case DEPTH: return "Depth";
                case MONITOR: return "Monitor";
                case 7: return "Runtime";
                case 8: return "Error";
                case 9: return "Exception";
                default: return "Own";
            }
        }
    }

    /** One statement with its operands. */
    private static final class Node {
        final int kind;
        final int a;
        final int b;
        final int c;
        final int level;

        Node(int kind, int a, int b, int c, int level) {
            this.kind = kind;
            this.a = a;
            this.b = b;
            this.c = c;
            this.level = level;
        }
    }

    /** The nodes made so far and the routines that they define. */
    private static final class Program {
        static final int MOST_LEVEL = 8;
        static final int VARIABLES = 4;
        static final int MONITORS = 2;
        static final int NOTHING = -1;

        private static final int MOST_NODES = 64;
        private static final int ROUTINES = 6;
        private static final int MOST_TIMES = 8;
        private static final int MOST_PLACES = 4;

        private final Classes classes;
        private final Node[] nodes = new Node[MOST_NODES];
        private final int[] statements = new int[ROUTINES];
        private int size = 0;

        Program(Classes classes) {
            this.classes = classes;
            for (int r = 0; r < ROUTINES; r++) {
                statements[r] = NOTHING;
            }
        }

        int size() {
            return size;
        }

        boolean isFull() {
            return size == MOST_NODES;
        }

        int add(int kind, int a, int b, int c) {
            nodes[size] = new Node(kind, a, b, c, levelOf(kind, a, b, c));
            size++;
            return size - 1;
        }

        Node at(int number) {
            return nodes[number];
        }

        void setStatement(int r, int number) {
            statements[r] = number;
        }

        int statementOf(int r) {
            return statements[r];
        }

        boolean isDefined(int r) {
            return isRoutine(r) && statements[r] != NOTHING;
        }

        boolean isNode(int number) {
            return number >= 0 && number < size;
        }

        static boolean isRoutine(int r) {
            return r >= 0 && r < ROUTINES;
        }

        static boolean isVariable(int v) {
            return v >= 0 && v < VARIABLES;
        }

        private static boolean isMonitor(int m) {
            return m >= 0 && m < MONITORS;
        }

        boolean fits(int kind, int a, int b, int c) {
            switch (kind) {
                case Kind.LOG:
                case Kind.BREAK:
                case Kind.RETHROW:
                case Kind.ORIGIN:
                    return true;
                case Kind.SHOW:
                case Kind.SET:
                case Kind.ADD:
                case Kind.RETURN:
                case Kind.EXIT:
                    return isVariable(a);
                case Kind.SEQUENCE:
                case Kind.FINALLY:
                case Kind.RESOURCE:
                    return isNode(a) && isNode(b);
                case Kind.IF:
                    return isVariable(a) && isNode(b) && (c == NOTHING || isNode(c));
                case Kind.LOOP:
                    return a >= 1 && a <= MOST_TIMES && isNode(b);
                case Kind.CALL:
                    return isRoutine(a);
                case Kind.THROW:
                case Kind.WRAP:
                case Kind.CAST:
                    return classes.has(a);
                case Kind.TRY:
                    return isNode(a) && classes.has(b) && isNode(c);
                case Kind.DIV:
                    return isVariable(a) && isVariable(b);
                case Kind.INDEX:
                    return isVariable(a) && b >= 0 && b <= MOST_PLACES;
                case Kind.LOCK:
                    return isMonitor(a) && isNode(b);
                case Kind.NOTIFY:
                    return isMonitor(a);
                default:
                    return false;
            }
        }

        int levelOf(int kind, int a, int b, int c) {
            switch (kind) {
                case Kind.SEQUENCE:
                case Kind.FINALLY:
                case Kind.RESOURCE:
                    return 1 + Math.max(levelAt(a), levelAt(b));
                case Kind.IF:
                    return 1 + Math.max(levelAt(b), levelAt(c));
                case Kind.LOOP:
                case Kind.LOCK:
                    return 1 + levelAt(b);
                case Kind.TRY:
                    return 1 + Math.max(levelAt(a), levelAt(c));
                default:
                    return 1;
            }
        }

        private int levelAt(int number) {
            return isNode(number) ? nodes[number].level : 0;
        }
    }

    /** Does the nodes of one run after the other and keeps what the last run left. */
    private static final class Machine {
        private static final int FIRST_DEPTH = 1;
        private static final int MOST_BEGUN = 300;
        private static final int LOW_EIGHT_BITS = 255;
        private static final int NOTIFIED = 100;

        private final Program program;
        private final Classes classes;
        private final int limit;
        private final int[] variables = new int[Program.VARIABLES];
        private final int[] held = new int[Program.MONITORS];
        // A node logs one int and makes one throwable at most, so these two rows never overflow.
        private final int[] log = new int[MOST_BEGUN];
        private final Thrown[] throwables = new Thrown[MOST_BEGUN];
        private int logSize = 0;
        private int made = 0;
        private int begun = 0;
        private int handlers = 0;
        private int secondParts = 0;
        private int deepest = 0;
        // What the latest RETURN or EXIT carries, and what the latest THROWING carries.
        private int carried = 0;
        private Thrown thrown;

        Machine(Program program, Classes classes, int limit) {
            this.program = program;
            this.classes = classes;
            this.limit = limit;
            for (int i = 0; i < MOST_BEGUN; i++) {
                throwables[i] = new Thrown();
            }
        }

        void prepare(int a, int b) {
            variables[0] = a;
            variables[1] = b;
            variables[2] = 0;
            variables[3] = 0;
            held[0] = 0;
            held[1] = 0;
            logSize = 0;
            made = 0;
            begun = 0;
            handlers = 0;
            secondParts = 0;
            deepest = 0;
        }

        int variableAt(int v) {
            return variables[v];
        }

        /** The counts of the last run, by the numbers of promise 13. */
        int tally(int what) {
            switch (what) {
                case 2: return begun;
                case 3: return made;
                case 4: return handlers;
                case 5: return secondParts;
                case 6: return deepest;
                case 7: return logSize;
                case 8: return held[0];
                case 9: return held[1];
                default: return REFUSED;
            }
        }

        int logSize() {
            return logSize;
        }

        int logAt(int k) {
            return log[k];
        }

        int carried() {
            return carried;
        }

        Thrown thrown() {
            return thrown;
        }

        /** Does a defined routine's statement as the first one, with a throwable at hand, or null. */
        Way performRoutine(int r, Thrown hand) {
            return perform(program.statementOf(r), FIRST_DEPTH, hand);
        }

        /**
         * Does a node with a throwable at hand, or null. A level of nodes goes through this method
         * and one more, so that 12 depths of 8 levels have some 200 calls open at most.
         */
        private Way perform(int number, int depth, Thrown hand) {
            if (!mayBegin()) {
                return Way.TIRING;
            }
            begun++;
            deepest = Math.max(deepest, depth);
            Node node = program.at(number);
            switch (node.kind) {
                case Kind.SEQUENCE: return sequence(node, depth, hand);
                case Kind.IF: return choose(node, depth, hand);
                case Kind.LOOP: return loop(node, depth, hand);
                case Kind.CALL: return call(node, depth);
                case Kind.TRY: return tryAndCatch(node, depth, hand);
                case Kind.FINALLY:
                case Kind.RESOURCE: return doBoth(node, depth, hand);
                case Kind.LOCK: return lock(node, depth, hand);
                case Kind.BREAK: return Way.BREAK;
                case Kind.RETURN: return carry(variables[node.a], Way.RETURN);
                case Kind.EXIT: return carry(variables[node.a] & LOW_EIGHT_BITS, Way.EXIT);
                case Kind.THROW: return raise(node.a, node.b, null);
                case Kind.WRAP: return raise(node.a, node.b, hand);
                case Kind.RETHROW: return rethrow(hand);
                case Kind.DIV: return divide(node);
                case Kind.INDEX: return index(node);
                case Kind.CAST: return cast(node, hand);
                case Kind.NOTIFY: return wake(node);
                default: return note(node, hand);
            }
        }

        private boolean mayBegin() {
            return begun < MOST_BEGUN;
        }

        private Way sequence(Node node, int depth, Thrown hand) {
            Way way = perform(node.a, depth, hand);
            return way == Way.NORMALLY ? perform(node.b, depth, hand) : way;
        }

        private Way choose(Node node, int depth, Thrown hand) {
            int chosen = variables[node.a] != 0 ? node.b : node.c;
            return chosen == Program.NOTHING ? Way.NORMALLY : perform(chosen, depth, hand);
        }

        private Way loop(Node node, int depth, Thrown hand) {
            Way way = Way.NORMALLY;
            for (int i = 0; i < node.a && way == Way.NORMALLY; i++) {
                way = perform(node.b, depth, hand);
            }
            return way == Way.BREAK ? Way.NORMALLY : way;
        }

        private Way call(Node node, int depth) {
            if (!program.isDefined(node.a)) {
                return Way.NORMALLY;
            }
            if (depth >= limit) {
                return raise(Classes.DEPTH, limit, null);
            }
            Way way = perform(program.statementOf(node.a), depth + 1, null);
            if (way == Way.RETURN) {
                variables[0] = carried;
            }
            return way == Way.THROWING || way.endsRun ? way : Way.NORMALLY;
        }

        private Way tryAndCatch(Node node, int depth, Thrown hand) {
            Way way = perform(node.a, depth, hand);
            if (way != Way.THROWING || !classes.is(thrown.type, node.b)) {
                return way;
            }
            if (mayBegin()) {
                handlers++;
            }
            return perform(node.c, depth, thrown);
        }

        private Way doBoth(Node node, int depth, Thrown hand) {
            Way way = perform(node.a, depth, hand);
            if (way.endsRun) {
                return way;
            }
            // The second part may return from calls or catch throwables of its own meanwhile.
            int keptCarried = carried;
            Thrown keptThrown = thrown;
            if (mayBegin()) {
                secondParts++;
            }
            Way last = perform(node.b, depth, hand);
            boolean keepsThrowing = node.kind == Kind.RESOURCE && way == Way.THROWING && !last.endsRun;
            if (last != Way.NORMALLY && !keepsThrowing) {
                return last;
            }
            if (keepsThrowing && last == Way.THROWING) {
                keptThrown.suppressed++;
            }
            carried = keptCarried;
            thrown = keptThrown;
            return way;
        }

        private Way lock(Node node, int depth, Thrown hand) {
            held[node.a]++;
            Way way = perform(node.b, depth, hand);
            if (!way.endsRun) {
                held[node.a]--;
            }
            return way;
        }

        private Way carry(int number, Way way) {
            carried = number;
            return way;
        }

        private Way raise(int type, int message, Thrown cause) {
            thrown = throwables[made];
            thrown.become(type, message, cause);
            made++;
            return Way.THROWING;
        }

        private Way rethrow(Thrown hand) {
            if (hand == null) {
                return raise(Classes.NULL, 0, null);
            }
            thrown = hand;
            return Way.THROWING;
        }

        private Way divide(Node node) {
            int divisor = variables[node.b];
            if (divisor == 0) {
                return raise(Classes.ARITHMETIC, 0, null);
            }
            variables[node.a] /= divisor;
            return Way.NORMALLY;
        }

        private Way index(Node node) {
            int place = variables[node.a];
            boolean inside = place >= 0 && place < node.b;
            return inside ? Way.NORMALLY : raise(Classes.INDEX, place, null);
        }

        private Way cast(Node node, Thrown hand) {
            if (hand == null || classes.is(hand.type, node.a)) {
                return Way.NORMALLY;
            }
            return raise(Classes.CAST, hand.type, null);
        }

        private Way wake(Node node) {
            if (held[node.a] == 0) {
                return raise(Classes.MONITOR, node.a, null);
            }
            addToLog(NOTIFIED + node.a);
            return Way.NORMALLY;
        }

        /** The kinds that only log or set, and always complete normally. */
        private Way note(Node node, Thrown hand) {
            switch (node.kind) {
                case Kind.LOG:
                    addToLog(node.a);
                    break;
                case Kind.SHOW:
                    addToLog(variables[node.a]);
                    break;
                case Kind.SET:
                    variables[node.a] = node.b;
                    break;
                case Kind.ADD:
                    variables[node.a] += node.b;
                    break;
                case Kind.ORIGIN:
                    if (hand != null) {
                        addToLog(hand.origin().type);
                    }
                    break;
                default:
                    break;
            }
            return Way.NORMALLY;
        }

        private void addToLog(int number) {
            log[logSize] = number;
            logSize++;
        }
    }

    /** The text that tells of the last run; empty before the first. */
    private static final class Report {
        private static final int MOST_CHARACTERS = 120;

        private final StringBuilder text = new StringBuilder();

        int length() {
            return text.length();
        }

        int characterAt(int i) {
            return text.charAt(i);
        }

        void write(int outcome, long told, Thrown first, Thrown second) {
            text.setLength(0);
            text.append(wordsOf(outcome));
            if (told != NONE) {
                text.append(' ').append((int) told);
            }
            if (first != null) {
                addChain(first);
            }
            if (second != null) {
                text.append(" then ");
                addName(second);
            }
            if (text.length() > MOST_CHARACTERS) {
                text.setLength(MOST_CHARACTERS);
            }
        }

        private static String wordsOf(int outcome) {
            switch (outcome) {
                case UNCAUGHT: return "uncaught";
                case DISPATCHED: return "dispatched";
                case HANDLER_THREW: return "handler threw";
                case EXITED: return "exit";
                case TIRED: return "tired";
                default: return "ended";
            }
        }

        private void addChain(Thrown first) {
            text.append(' ');
            addName(first);
            // What lies behind the cut is not written at all, to keep the text small.
            for (Thrown at = first.cause; at != null && text.length() < MOST_CHARACTERS; at = at.cause) {
                text.append(" from ");
                addName(at);
            }
        }

        private void addName(Thrown named) {
            text.append(Classes.wordOf(named.type));
            if (Classes.isOwn(named.type)) {
                text.append(named.type);
            }
            text.append('(').append(named.message).append(')');
            if (named.suppressed > 0) {
                text.append('+').append(named.suppressed);
            }
        }
    }
}
