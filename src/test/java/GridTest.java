import java.util.List;

/**
 * Every call with every mix of boundary values, on an empty object, on one with something of everything and on full
 * ones: so each refusal meets each other one. Answers, and what is left behind, are as those of NaiveWax.
 */
public final class GridTest {
    private static final Check T = new Check("grid");
    private static final int MIN = Integer.MIN_VALUE, MAX = Integer.MAX_VALUE, NONE = WaxVoices.NONE;

    private static final String ALL_FULL = "side(9, 50, 3, 2) ".repeat(16) + "sign(2, 100, 200, 1) ".repeat(60)
            + "piece(10, 11) ".repeat(7) + "text(3, NONE, NONE, 7, true) ".repeat(60);
    private static final List<String> STARTS = List.of("", Edges.SOME, ALL_FULL, Edges.YEAR_1000);

    public static void main(String[] args) {
        for (String start : STARTS) {
            for (Op op : Op.values()) {
                mix(start, op, new int[op.arity], 0);
            }
        }
        T.end();
    }

    private static void mix(String start, Op op, int[] arguments, int at) {
        if (at == arguments.length) {
            compare(start, op, arguments);
            return;
        }
        for (int value : edges(op, at)) {
            arguments[at] = value;
            mix(start, op, arguments, at + 1);
        }
    }

    private static void compare(String start, Op op, int[] arguments) {
        WaxVoices x = Run.wax(start);
        NaiveWax n = Run.naive(start);
        int got = op.ask(x, arguments);
        T.due(op.text(arguments), got, op.ask(n, arguments));
        for (int what = 0; what <= 5; what++) {
            T.due("total(" + what + ") behind " + op.text(arguments), x.total(what), n.total(what));
        }
    }

    /** The boundary values of one argument of a call, and some far off. */
    private static int[] edges(Op op, int at) {
        return switch (op) {
            case side -> at == 0 ? edges(0, 1000) : edges(0, 100);
            case hours -> at == 0 ? aSide() : edges(1, 1000);
            case told -> at == 0 ? aSide() : edges(0, 8);
            case read -> at == 0 ? aSide() : new int[] {0, 1};
            case pass -> edges(1, 100);
            case best, does -> at == 0 ? aSet() : at == 1 ? edges(1, 3) : at == 2 ? edges(0, 3000) : aSide();
            case needed -> at == 0 ? aSet() : at == 1 ? edges(1, 3) : edges(0, 600000);
            case sign -> at == 0 ? aSide() : at == 3 ? edges(1, 9) : edges(1, 30000);
            case drop -> new int[] {MIN, NONE, -1, 0, 1, 3, 4, 59, 60, 61, MAX};
            case weighs -> at == 0 ? aSide() : edges(1, 30000);
            case piece, tolerance -> edges(0, 99);
            case inRow -> edges(0, 6);
            case sung -> at == 0 ? aSide() : at == 1 ? edges(0, 255) : edges(0, 3);
            case text, counts -> at == 4 ? new int[] {0, 1}
                    : at == 0 ? edges(0, 7) : at == 1 ? edges(0, 3) : at == 2 ? edges(0, 5) : edges(0, 9999);
            case may -> at == 0 ? aSide() : at == 1 ? edges(0, 5) : edges(0, 9999);
            case heard -> at == 0 ? edges(0, 5) : edges(0, 9999);
            case days -> at == 0 ? aSet() : at == 1 ? edges(0, 5) : edges(0, 9999);
            case total -> edges(0, 5);
            case speed, span, quarrels, copy, copies, clearest -> aSide();
            case sweep, rows, misfit -> new int[0];
        };
    }

    private static int[] edges(int low, int high) {
        return new int[] {MIN, NONE, low - 1, low, high, high + 1, MAX};
    }

    private static int[] aSide() {
        return new int[] {MIN, NONE, -1, 0, 1, 4, 5, 15, 16, 32, MAX};
    }

    private static int[] aSet() {
        return new int[] {MIN, -1, 0, 1, 0b10110, 0x3f, 0x7f, 0x8000, 0x10000};
    }
}
