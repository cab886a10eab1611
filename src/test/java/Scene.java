/** A ThrowScenario with the kinds of nodes by their names; a node that is refused ends the test. */
final class Scene {
    static final int THROWABLE = 0;
    static final int NULL = 1;
    static final int ARITHMETIC = 2;
    static final int INDEX = 3;
    static final int CAST = 4;
    static final int DEPTH = 5;
    static final int MONITOR = 6;
    static final int RUNTIME = 7;
    static final int ERROR = 8;
    static final int EXCEPTION = 9;
    static final int NOTHING = -1;
    static final int MANY = 1 + 3 * 73 + 65 + 3;
    /** What a node can be a part of, but for the handler c of 13, which has its own AT HAND. */
    static final String[] PARTS = {"SEQUENCE a", "SEQUENCE b", "IF b", "IF c", "LOOP b", "TRY a", "FINALLY a", "FINALLY b",
        "RESOURCE a", "RESOURCE b", "LOCK b"};

    final ThrowScenario x;

    Scene(int limit) {
        x = new ThrowScenario(limit);
    }

    private int make(int kind, int a, int b, int c) {
        int made = x.node(kind, a, b, c);
        if (made < 0) {
            throw new IllegalStateException("node(" + kind + ", " + a + ", " + b + ", " + c + ") answered " + made);
        }
        return made;
    }

    int log(int number) { return make(0, number, 0, 0); }
    int show(int v) { return make(1, v, 0, 0); }
    int set(int v, int number) { return make(2, v, number, 0); }
    int add(int v, int number) { return make(3, v, number, 0); }
    int sequence(int first, int then) { return make(4, first, then, 0); }
    int choose(int v, int then, int otherwise) { return make(5, v, then, otherwise); }
    int loop(int times, int node) { return make(6, times, node, 0); }
    int breaks() { return make(7, 0, 0, 0); }
    int returns(int v) { return make(8, v, 0, 0); }
    int call(int r) { return make(9, r, 0, 0); }
    int throwing(int type, int message) { return make(10, type, message, 0); }
    int rethrow() { return make(11, 0, 0, 0); }
    int wrap(int type, int message) { return make(12, type, message, 0); }
    int tryCatch(int node, int type, int handler) { return make(13, node, type, handler); }
    int atLast(int node, int last) { return make(14, node, last, 0); }
    int resource(int node, int closing) { return make(15, node, closing, 0); }
    int div(int v, int by) { return make(16, v, by, 0); }
    int index(int v, int places) { return make(17, v, places, 0); }
    int cast(int type) { return make(18, type, 0, 0); }
    int exit(int v) { return make(19, v, 0, 0); }
    int lock(int m, int node) { return make(20, m, node, 0); }
    int wake(int m) { return make(21, m, 0, 0); }
    int origin() { return make(22, 0, 0, 0); }

    /** One node after the other. */
    int all(int... nodes) {
        int made = nodes[nodes.length - 1];
        for (int i = nodes.length - 2; i >= 0; i--) {
            made = sequence(nodes[i], made);
        }
        return made;
    }

    /** A statement that does the node once, as one of PARTS; it takes variables 2 and 3, and a TRY there catches MONITOR. */
    int asPart(String part, int node) {
        int other = add(3, 1);
        switch (part) {
            case "SEQUENCE a": return sequence(node, other);
            case "SEQUENCE b": return sequence(other, node);
            case "IF b": return sequence(set(2, 1), choose(2, node, other));
            case "IF c": return sequence(set(2, 0), choose(2, other, node));
            case "LOOP b": return loop(1, node);
            case "TRY a": return tryCatch(node, MONITOR, other);
            case "FINALLY a": return atLast(node, other);
            case "FINALLY b": return atLast(other, node);
            case "RESOURCE a": return resource(node, other);
            case "RESOURCE b": return resource(other, node);
            case "LOCK b": return lock(0, node);
            default: throw new IllegalArgumentException(part);
        }
    }

    /** A statement that never ends by itself within 300 nodes: it adds 1 to a variable again and again. */
    int endless(int v) {
        return loop(8, loop(8, loop(8, add(v, 1))));
    }

    /** A CALL that begins MANY nodes in all, itself among them; it takes routine 5 and a LIMIT of 2 or more. */
    int many() {
        int one = add(3, 1);
        int seventyThree = loop(8, loop(8, one));
        int sixtyFive = loop(8, loop(7, one));
        routine(5, all(seventyThree, seventyThree, seventyThree, sixtyFive));
        return call(5);
    }

    /** Begins just so many nodes, 1 .. 9. */
    int few(int nodes) {
        int one = add(3, 1);
        return nodes == 1 ? one : loop(nodes - 1, one);
    }

    /** Does a node as number 292 .. 300 of those that the run begins; it takes routine 5. */
    int begunAs(int number, int node) {
        int joins = 2;
        return all(few(number - 1 - MANY - joins), many(), node);
    }

    void routine(int r, int node) {
        if (x.define(r, node) != 0) {
            throw new IllegalStateException("define(" + r + ", " + node + ") was refused");
        }
    }

    /** Runs a node as routine 0. */
    int runs(int node, int a, int b) {
        routine(0, node);
        return x.run(0, a, b);
    }

    int runs(int node) {
        return runs(node, 0, 0);
    }

    void dueLog(String name, int node, String want) {
        runs(node);
        Due.dueText(name + ", its log", logText(), want);
    }

    void dueReport(String name, int node, int a, int b, String want) {
        runs(node, a, b);
        Due.dueText(name + ", its report", reportText(), want);
    }

    void dueReport(String name, int node, String want) {
        dueReport(name, node, 0, 0, want);
    }

    /** How a node completes in a run of it with 5 and 6: normally, break, return .., or uncaught .. */
    String wayOf(int node) {
        int mark = 987;
        runs(loop(1, sequence(node, log(mark))), 5, 6);
        boolean wentOn = x.count(7) > 0 && x.logged(x.count(7) - 1) == mark;
        String report = reportText();
        if (report.equals("ended")) {
            return wentOn ? "normally" : "break";
        }
        return report.replace("ended", "return");
    }

    String reportText() {
        StringBuilder text = new StringBuilder();
        int length = x.report(-1);
        for (int i = 0; i < length; i++) {
            text.append((char) x.report(i));
        }
        return text.toString();
    }

    String logText() {
        StringBuilder text = new StringBuilder();
        for (int k = 0; x.logged(k) != ThrowScenario.NONE; k++) {
            text.append(k == 0 ? "" : " ").append(x.logged(k));
        }
        return text.toString();
    }
}
