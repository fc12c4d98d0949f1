/** What the tests of boundary cases share: objects to begin with, bounds, refusals that change nothing. */
final class Edges {
    /** Five SIDES (the last one not SOUND at all) and something of everything else; THE YEAR is 3. */
    static final String SOME =
            "side(100, 90, 7, 3) side(1000, 100, 100, 0) side(0, 55, 0, 1) side(7, 80, 20, 2) hours(0, 20, 8) "
            + "hours(1, 1000, 1) pass(3) read(0, true) read(2, false) side(40, 0, 1, 1) "
            + "sign(0, 7000, 7800, 2) sign(0, 7500, 8000, 3) sign(1, 1, 1, 9) sign(0, 9000, 30000, 1) drop(1) "
            + "piece(5, 20) piece(21, 40) piece(38, 4) tolerance(2) sung(0, 3, 1) sung(1, 128, 2) "
            + "text(0, NONE, NONE, 10, true) text(1, 1, NONE, 20, true) text(7, 2, 5, 5, true) "
            + "text(7, 2, NONE, 9999, false) copy(1, 0) copy(3, 1) ";
    static final int SIDES_OF_SOME = 5;

    static final String SIXTEEN_SIDES = "side(9, 50, 3, 2) ".repeat(16);
    static final String SIXTY_SIGNS = SOME + "sign(2, 100, 200, 1) ".repeat(56);
    static final String SEVEN_PIECES = SOME + "piece(10, 11) ".repeat(4);
    static final String SIXTY_TEXTS = SOME + "text(3, NONE, NONE, 7, true) ".repeat(56);
    static final String YEAR_1000 = "side(9, 50, 3, 0) " + "pass(100) ".repeat(10);

    private static final int MIN = Integer.MIN_VALUE, MAX = Integer.MAX_VALUE, NONE = WaxVoices.NONE;

    private final Check check;

    Edges(Check check) {
        this.check = check;
    }

    /** Each call of a run on a new object answers what is due, and the naive model agrees. */
    void run(String sentence, String script) {
        WaxVoices x = new WaxVoices();
        NaiveWax n = new NaiveWax();
        for (Run.Call c : Run.parse(script)) {
            int got = c.op().ask(x, c.arguments());
            int naive = c.op().ask(n, c.arguments());
            check.due(sentence + ": " + c.text() + " as in the naive model", got, naive);
            if (c.due() != null) check.due(sentence + ": " + c.text(), got, c.due());
        }
    }

    /** Each of the calls on a new object of its own answers what is due, and changes nothing that can be seen. */
    void still(String sentence, String start, String calls) {
        String before = Picture.of(Run.wax(start));
        for (Run.Call c : Run.parse(calls)) {
            WaxVoices x = Run.wax(start);
            int got = c.op().ask(x, c.arguments());
            check.due(sentence + ": " + c.text(), got, c.due());
            check.due(sentence + ": " + c.text() + " as in the naive model", got, c.op().ask(Run.naive(start), c.arguments()));
            check.same(sentence + ": " + c.text() + " changes nothing", Picture.of(x), before);
        }
    }

    /** For '#' in a call the least and the greatest are taken; what lies below, above and far off is refused. */
    void bounds(String sentence, String start, String call, int low, int high, String refusal) {
        for (int n : new int[] {low, high}) {
            Run.Call c = Run.parse(call.replace("#", "" + n)).get(0);
            int got = c.op().ask(Run.wax(start), c.arguments());
            check.holds(sentence + ": " + c.text() + " is taken, but answered " + got, got >= 0 || got == NONE);
        }
        for (int n : new int[] {low - 1, high + 1, MIN, MAX}) {
            still(sentence, start, call.replace("#", "" + n) + "=" + refusal);
        }
    }

    /** For '#' in a call 0 .. count - 1 are known; no other number is, NONE and those that wrap as bits included. */
    void numbers(String sentence, String start, String call, int count) {
        bounds(sentence, start, call, 0, count - 1, "UNKNOWN");
        for (int n : new int[] {NONE, 31, 32, 64, 65536}) {
            if (n < 0 || n >= count) still(sentence, start, call.replace("#", "" + n) + "=UNKNOWN");
        }
    }

    /** For '#' in a call a set is unknown as soon as it has one bit that is no SIDE. */
    void sets(String sentence, String start, String call, int sides) {
        for (int bit = sides; bit < 32; bit++) {
            still(sentence, start, call.replace("#", "" + (1 << bit)) + "=UNKNOWN");
            still(sentence, start, call.replace("#", "" + (1 | 1 << bit)) + "=UNKNOWN");
        }
        still(sentence, start, call.replace("#", "-1") + "=UNKNOWN");
        still(sentence, start, call.replace("#", "MAX") + "=UNKNOWN");
    }
}
