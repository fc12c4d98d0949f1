/** Long runs of mixed calls, right and wrong ones, answered by WaxVoices as by NaiveWax. */
public final class NaiveTest {
    private static final Check T = new Check("naive");
    private static final int RUNS = 350;
    private static final int CALLS = 512;
    private static final int[] ODD = {
        -1, -2, -9, 0, 1, 5, 6, 7, 8, 9, 10, 15, 16, 59, 60, 99, 100, 101, 255, 256, 999, 1000, 1001, 3000, 3001,
        9999, 10000, 30000, 30001, 65535, 65536, 600000, 600001, Integer.MIN_VALUE, Integer.MAX_VALUE
    };
    private static final Op[][] PARTS = {
        {Op.side, Op.hours, Op.told, Op.read, Op.pass},
        {Op.best, Op.does, Op.needed},
        {Op.sign, Op.drop, Op.speed, Op.span, Op.weighs, Op.quarrels},
        {Op.piece, Op.sweep, Op.tolerance, Op.rows, Op.misfit, Op.inRow},
        {Op.sung, Op.text, Op.counts, Op.may, Op.heard, Op.days},
        {Op.copy, Op.copies, Op.clearest, Op.total},
    };

    private long seed;
    private final WaxVoices x = new WaxVoices();
    private final NaiveWax n = new NaiveWax();
    private final int dayScale;
    private final int speedScale;
    private final boolean wide;

    private NaiveTest(int run) {
        seed = run * 7919L + 17;
        // days and speeds that lie close together meet more often
        dayScale = run % 3 == 0 ? 10000 : 12;
        speedScale = run % 2 == 0 ? 30000 : 40;
        // small numbers make like plans, large ones come near all that can be saved
        wide = run % 5 == 0;
    }

    public static void main(String[] args) {
        for (int run = 0; run < RUNS; run++) {
            NaiveTest t = new NaiveTest(run);
            // each run leans on one part, so that each part comes to be full in some run
            int leaning = run % (PARTS.length + 1);
            for (int i = 0; i < CALLS; i++) {
                boolean any = leaning == PARTS.length || t.below(3) == 0;
                t.step(PARTS[any ? t.below(PARTS.length) : leaning]);
            }
        }
        T.end();
    }

    private void step(Op[] part) {
        Op op = part[below(part.length)];
        // swept away seldom, so that seven come to lie there
        if (op == Op.sweep && below(8) != 0) return;
        int[] arguments = arguments(op);
        T.due(op.text(arguments), op.ask(x, arguments), op.ask(n, arguments));
    }

    private int[] arguments(Op op) {
        return switch (op) {
            case side -> of(num(0, wide ? 1000 : 20), num(0, 100), num(0, 15), num(0, 6));
            case hours -> of(aSide(), num(1, wide ? 1000 : 12), num(1, wide ? 1000 : 12));
            case told -> of(aSide(), num(0, 8));
            case read -> of(aSide(), below(2));
            // years are few, so that sides do not all rot away
            case pass -> of(below(8) == 0 ? num(1, 3) : 0);
            case best -> of(set(6), num(1, 3), num(0, wide ? 3000 : 40));
            case does -> of(set(6), num(1, 3), num(0, wide ? 3000 : 40), aSide());
            case needed -> of(set(6), num(1, 3), num(0, wide ? 300000 : 5000));
            case sign -> signArguments();
            case drop -> of(below(3) == 0 ? num(0, 59) : 60);
            case speed, span, quarrels -> of(oneOfTwo());
            case weighs -> of(oneOfTwo(), num(1, speedScale));
            case piece -> of(groove(), groove());
            case sweep, rows, misfit -> of();
            case tolerance -> of(groove());
            case inRow -> of(num(0, 6));
            case sung -> of(aSide(), below(2) == 0 ? 1 << below(3) : num(0, 255), num(0, 3));
            case text -> of(num(0, below(2) == 0 ? 7 : 2), orNone(3), orNone(5), day(), below(3) == 0 ? 0 : 1);
            case counts -> of(num(0, 7), num(0, 3), num(0, 5), day());
            case may -> of(aSide(), num(0, 5), day());
            case heard -> of(num(0, 5), day());
            case days -> daysArguments();
            case copy -> of(aSide(), below(6) == 0 ? WaxVoices.NONE : aSide());
            case copies, clearest -> of(aSide());
            case total -> of(num(0, 5));
        };
    }

    private int[] signArguments() {
        int low = num(1, speedScale);
        int high = below(10) == 0 ? num(1, speedScale) : low + below(speedScale / 3);
        return of(oneOfTwo(), low, high, num(1, 4));
    }

    private int[] daysArguments() {
        int from = day();
        int to = below(3) == 0 ? day() : Math.min(9999, Math.max(0, from)) + below(50);
        return of(set(2), num(0, 5), from, to);
    }

    private static int[] of(int... arguments) {
        return arguments;
    }

    /** One of 0 .. n - 1, the same ones in each session. */
    private int below(int n) {
        seed = seed * 6364136223846793005L + 1442695040888963407L;
        return (int) ((seed >>> 33) % n);
    }

    /** Mostly low .. high; one in thirty is odd. */
    private int num(int low, int high) {
        return below(30) == 0 ? ODD[below(ODD.length)] : low + below(high - low + 1);
    }

    private int aSide() {
        return num(0, Math.max(0, n.sides.size() - 1));
    }

    private int oneOfTwo() {
        return below(Math.max(1, Math.min(2, n.sides.size())));
    }

    private int groove() {
        return num(0, below(2) == 0 ? 99 : 6);
    }

    private int day() {
        return num(0, dayScale - 1);
    }

    private int orNone(int high) {
        return below(3) == 0 ? WaxVoices.NONE : num(0, high);
    }

    private int set(int most) {
        int set = 0;
        int bits = below(most + 1);
        for (int i = 0; i < bits && !n.sides.isEmpty(); i++) set |= 1 << below(n.sides.size());
        return below(40) == 0 ? ODD[below(ODD.length)] : set;
    }
}
