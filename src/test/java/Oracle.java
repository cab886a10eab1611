import java.util.ArrayList;
import java.util.List;

/**
 * A second reading of the document, written apart from the program: statements complete by Java's
 * own exceptions, operands are told by a table, and nothing is kept small.
 */
final class Oracle {
    private static final int REFUSED = -1;
    private static final int FULL = -2;
    private static final long NONE = 1000000000000L;

    /** v variable, n node, o node or -1, t times, r routine, k class, p places, m monitor, . any int */
    private static final String[] OPERANDS = {
        "...", "v..", "v..", "v..", "nn.", "vno", "tn.", "...", "v..", "r..", "k..", "...", "k..", "nkn", "nn.", "nn.",
        "vv.", "vp.", "k..", "v..", "mn.", "m..", "..."};
    private static final String[] WORDS = {
        "Throwable", "Null", "Arithmetic", "Index", "Cast", "Depth", "Monitor", "Runtime", "Error", "Exception"};

    /** How a statement completes otherwise than normally. */
    private static class Signal extends RuntimeException {
        private static final long serialVersionUID = 1L;

        Signal() {
            super(null, null, false, false);
        }
    }

    private static final class Break extends Signal {
        private static final long serialVersionUID = 1L;
    }

    private static final class Return extends Signal {
        private static final long serialVersionUID = 1L;
        final int number;

        Return(int number) {
            this.number = number;
        }
    }

    private static final class Throwing extends Signal {
        private static final long serialVersionUID = 1L;
        final int type;
        final int message;
        final Throwing from;
        int suppressed;

        Throwing(int type, int message, Throwing from) {
            this.type = type;
            this.message = message;
            this.from = from;
        }
    }

    /** Not a Signal, so that nothing on its way is done any more. */
    private static final class Over extends Error {
        private static final long serialVersionUID = 1L;
        final int outcome;
        final int status;

        Over(int outcome, int status) {
            super(null, null, false, false);
            this.outcome = outcome;
            this.status = status;
        }
    }

    private final int limit;
    private final List<Integer> parents = new ArrayList<>(List.of(-1, 7, 7, 7, 7, 8, 7, 9, 0, 0));
    private final List<int[]> nodes = new ArrayList<>();
    private final Integer[] routines = new Integer[6];
    private int dispatched = -1;

    private int[] variables = new int[4];
    private int[] held = new int[2];
    private List<Integer> log = new ArrayList<>();
    private int begun;
    private int made;
    private int handlers;
    private int seconds;
    private int deepest;
    private long value = NONE;
    private Throwing failure;
    private Throwing second;
    private String report = "";

    Oracle(int limit) {
        this.limit = limit < 1 ? 1 : limit > 12 ? 12 : limit;
    }

    int declare(int parent) {
        if (parent < 0 || parent >= parents.size()) {
            return REFUSED;
        }
        if (parents.size() == 16) {
            return FULL;
        }
        parents.add(parent);
        return parents.size() - 1;
    }

    private boolean fits(char sort, int operand) {
        switch (sort) {
            case 'v': return operand >= 0 && operand <= 3;
            case 'n': return operand >= 0 && operand < nodes.size();
            case 'o': return operand >= -1 && operand < nodes.size();
            case 't': return operand >= 1 && operand <= 8;
            case 'r': return operand >= 0 && operand <= 5;
            case 'k': return operand >= 0 && operand < parents.size();
            case 'p': return operand >= 0 && operand <= 4;
            case 'm': return operand == 0 || operand == 1;
            default: return true;
        }
    }

    /** The fifth int of a node is its LEVEL. */
    int node(int kind, int a, int b, int c) {
        if (kind < 0 || kind > 22) {
            return REFUSED;
        }
        int[] operands = {a, b, c};
        int level = 1;
        for (int i = 0; i < 3; i++) {
            char sort = OPERANDS[kind].charAt(i);
            if (!fits(sort, operands[i])) {
                return REFUSED;
            }
            if ((sort == 'n' || sort == 'o') && operands[i] >= 0) {
                level = Math.max(level, nodes.get(operands[i])[4] + 1);
            }
        }
        if (level > 8) {
            return REFUSED;
        }
        if (nodes.size() == 64) {
            return FULL;
        }
        nodes.add(new int[] {kind, a, b, c, level});
        return nodes.size() - 1;
    }

    int define(int r, int node) {
        if (r < 0 || r > 5 || node < 0 || node >= nodes.size()) {
            return REFUSED;
        }
        routines[r] = node;
        return 0;
    }

    int dispatch(int r) {
        if (r < -1 || r > 5) {
            return REFUSED;
        }
        dispatched = r;
        return 0;
    }

    int run(int r, int a, int b) {
        if (r < 0 || r > 5 || routines[r] == null) {
            return REFUSED;
        }
        variables = new int[] {a, b, 0, 0};
        held = new int[2];
        log = new ArrayList<>();
        begun = 0;
        made = 0;
        handlers = 0;
        seconds = 0;
        deepest = 0;
        value = NONE;
        failure = null;
        second = null;
        int outcome;
        try {
            outcome = outcomeOf(routines[r]);
        } catch (Over over) {
            outcome = over.outcome;
            value = outcome == ThrowScenario.EXITED ? over.status : NONE;
        }
        report = reportOf(outcome);
        return outcome;
    }

    private int outcomeOf(int statement) {
        try {
            act(statement, 1, null);
            return ThrowScenario.ENDED;
        } catch (Break signal) {
            return ThrowScenario.ENDED;
        } catch (Return signal) {
            value = signal.number;
            return ThrowScenario.ENDED;
        } catch (Throwing signal) {
            failure = signal;
        }
        if (dispatched == -1 || routines[dispatched] == null) {
            return ThrowScenario.UNCAUGHT;
        }
        try {
            act(routines[dispatched], 1, failure);
        } catch (Throwing signal) {
            second = signal;
            return ThrowScenario.HANDLER_THREW;
        } catch (Signal signal) {
            return ThrowScenario.DISPATCHED;
        }
        return ThrowScenario.DISPATCHED;
    }

    private Throwing make(int type, int message, Throwing from) {
        made++;
        return new Throwing(type, message, from);
    }

    private boolean is(int type, int other) {
        return type == other || type > -1 && is(parents.get(type), other);
    }

    private void act(int number, int depth, Throwing hand) {
        if (begun == 300) {
            throw new Over(ThrowScenario.TIRED, 0);
        }
        begun++;
        deepest = Math.max(deepest, depth);
        int[] n = nodes.get(number);
        int a = n[1];
        int b = n[2];
        int c = n[3];
        switch (n[0]) {
            case 0:
                log.add(a);
                break;
            case 1:
                log.add(variables[a]);
                break;
            case 2:
                variables[a] = b;
                break;
            case 3:
                variables[a] = (int) ((long) variables[a] + b);
                break;
            case 4:
                act(a, depth, hand);
                act(b, depth, hand);
                break;
            case 5:
                if (variables[a] != 0) {
                    act(b, depth, hand);
                } else if (c >= 0) {
                    act(c, depth, hand);
                }
                break;
            case 6:
                try {
                    for (int i = 0; i < a; i++) {
                        act(b, depth, hand);
                    }
                } catch (Break signal) {
                    break;
                }
                break;
            case 7:
                throw new Break();
            case 8:
                throw new Return(variables[a]);
            case 9:
                call(a, depth);
                break;
            case 10:
                throw make(a, b, null);
            case 11:
                throw hand != null ? hand : make(1, 0, null);
            case 12:
                throw make(a, b, hand);
            default:
                actMore(n[0], a, b, c, depth, hand);
                break;
        }
    }

    private void call(int r, int depth) {
        if (routines[r] == null) {
            return;
        }
        if (depth + 1 > limit) {
            throw make(5, limit, null);
        }
        try {
            act(routines[r], depth + 1, null);
        } catch (Break signal) {
            return;
        } catch (Return signal) {
            variables[0] = signal.number;
        }
    }

    private void actMore(int kind, int a, int b, int c, int depth, Throwing hand) {
        switch (kind) {
            case 13:
                try {
                    act(a, depth, hand);
                } catch (Throwing signal) {
                    if (!is(signal.type, b)) {
                        throw signal;
                    }
                    handlers += begun < 300 ? 1 : 0;
                    act(c, depth, signal);
                }
                break;
            case 14:
            case 15:
                actBoth(kind == 15, a, b, depth, hand);
                break;
            case 16:
                if (variables[b] == 0) {
                    throw make(2, 0, null);
                }
                variables[a] = (int) ((long) variables[a] / variables[b]);
                break;
            case 17:
                try {
                    byte[] places = new byte[b];
                    places[variables[a]] = 1;
                } catch (ArrayIndexOutOfBoundsException e) {
                    throw make(3, variables[a], null);
                }
                break;
            case 18:
                if (hand != null && !is(hand.type, a)) {
                    throw make(4, hand.type, null);
                }
                break;
            case 19:
                throw new Over(ThrowScenario.EXITED, Math.floorMod(variables[a], 256));
            case 20:
                held[a]++;
                try {
                    act(b, depth, hand);
                } catch (Signal signal) {
                    held[a]--;
                    throw signal;
                }
                held[a]--;
                break;
            case 21:
                if (held[a] == 0) {
                    throw make(6, a, null);
                }
                log.add(100 + a);
                break;
            default:
                if (hand != null) {
                    Throwing last = hand;
                    while (last.from != null) {
                        last = last.from;
                    }
                    log.add(last.type);
                }
                break;
        }
    }

    private void actBoth(boolean closes, int a, int b, int depth, Throwing hand) {
        Signal first = null;
        try {
            act(a, depth, hand);
        } catch (Signal signal) {
            first = signal;
        }
        seconds += begun < 300 ? 1 : 0;
        try {
            act(b, depth, hand);
        } catch (Signal signal) {
            if (!closes || !(first instanceof Throwing)) {
                throw signal;
            }
            if (signal instanceof Throwing) {
                ((Throwing) first).suppressed++;
            }
        }
        if (first != null) {
            throw first;
        }
    }

    private String reportOf(int outcome) {
        String[] words = {"ended", "uncaught", "dispatched", "handler threw", "exit", "tired"};
        StringBuilder text = new StringBuilder(words[outcome]);
        if (value != NONE) {
            text.append(' ').append(value);
        }
        String before = " ";
        for (Throwing at = failure; at != null; at = at.from) {
            text.append(before).append(nameOf(at));
            before = " from ";
        }
        if (second != null) {
            text.append(" then ").append(nameOf(second));
        }
        return text.substring(0, Math.min(120, text.length()));
    }

    private static String nameOf(Throwing t) {
        String word = t.type < 10 ? WORDS[t.type] : "Own" + t.type;
        return word + "(" + t.message + ")" + (t.suppressed > 0 ? "+" + t.suppressed : "");
    }

    long variable(int v) {
        return v < 0 || v > 3 ? NONE : variables[v];
    }

    long value() {
        return value;
    }

    long logged(int k) {
        return k < 0 || k >= log.size() ? NONE : log.get(k);
    }

    long failure(int k, int what) {
        return part(failure, k, what);
    }

    long second(int k, int what) {
        return part(second, k, what);
    }

    private static long part(Throwing t, int k, int what) {
        if (t == null || k < 0 || what < 0 || what > 2) {
            return NONE;
        }
        if (k > 0) {
            return part(t.from, k - 1, what);
        }
        return what == 0 ? t.type : what == 1 ? t.message : t.suppressed;
    }

    int report(int i) {
        if (i == -1) {
            return report.length();
        }
        return i < 0 || i >= report.length() ? REFUSED : report.charAt(i);
    }

    int count(int what) {
        int[] counts = {parents.size(), nodes.size(), begun, made, handlers, seconds, deepest, log.size(), held[0], held[1]};
        return what < 0 || what > 9 ? REFUSED : counts[what];
    }
}
