/** All that an object tells, as a text, to see whether a call has changed anything. */
final class State {
    private State() {
    }

    /** What the object tells of the last run and of itself; it makes some 100 calls. */
    static String of(Scene s) {
        StringBuilder text = new StringBuilder();
        for (int v = 0; v <= 3; v++) {
            text.append(s.x.variable(v)).append(' ');
        }
        text.append("value ").append(s.x.value()).append(" log ").append(s.logText()).append(" failure");
        for (int k = 0; s.x.failure(k, 0) != ThrowScenario.NONE; k++) {
            text.append(' ').append(s.x.failure(k, 0)).append('/').append(s.x.failure(k, 1)).append('/').append(s.x.failure(k, 2));
        }
        text.append(" second");
        for (int k = 0; s.x.second(k, 0) != ThrowScenario.NONE; k++) {
            text.append(' ').append(s.x.second(k, 0)).append('/').append(s.x.second(k, 1)).append('/').append(s.x.second(k, 2));
        }
        text.append(" report ").append(s.reportText()).append(" counts");
        for (int what = 0; what <= 9; what++) {
            text.append(' ').append(s.x.count(what));
        }
        return text.toString();
    }

    /** What a run of each routine then tells, and which numbers the next class and node get. */
    static String afterwards(Scene s) {
        StringBuilder text = new StringBuilder();
        for (int r = 0; r <= 5; r++) {
            text.append(s.x.run(r, 1, 2)).append(' ').append(s.logText()).append(' ').append(s.x.report(-1)).append(", ");
        }
        text.append(s.x.declare(0)).append(' ').append(s.x.node(7, 0, 0, 0));
        return text.toString();
    }
}
