/** Long runs of mixed calls, right and wrong ones, answered by WaxVoices as by NaiveWax. */
public final class NaiveTest {
    private static final Check T = new Check("naive");
    private static final int RUNS = 350;
    private static final int CALLS = 512;
    private static final int[] ODD = {
        -1, -2, -9, 0, 1, 5, 6, 7, 8, 9, 10, 15, 16, 59, 60, 99, 100, 101, 255, 256, 999, 1000, 1001, 3000, 3001,
        9999, 10000, 30000, 30001, 65535, 65536, 600000, 600001, Integer.MIN_VALUE, Integer.MAX_VALUE
    };

    private static final int SIDES = 5, PLANS = 3, SPEEDS = 6, PIECES = 6, TEXTS = 6, COPIES = 4;

    private long seed;
    private final WaxVoices x = new WaxVoices();
    private final NaiveWax n = new NaiveWax();
    private String call;
    private final int dayScale;
    private final int speedScale;

    private NaiveTest(int run) {
        seed = run * 7919L + 17;
        // days and speeds that lie close together meet more often
        dayScale = run % 3 == 0 ? 10000 : 12;
        speedScale = run % 2 == 0 ? 30000 : 40;
    }

    public static void main(String[] args) {
        for (int run = 0; run < RUNS; run++) {
            NaiveTest t = new NaiveTest(run);
            // each run leans on one part, so that each part comes to be full in some run
            int part = run % 7;
            for (int i = 0; i < CALLS; i++) {
                int asked = t.below(3) == 0 || part == 6 ? t.below(6) : part;
                t.step(asked);
            }
        }
        T.end();
    }

    /** One of 0 .. n - 1, the same ones in each session. */
    private int below(int n) {
        seed = seed * 6364136223846793005L + 1442695040888963407L;
        return (int) ((seed >>> 33) % n);
    }

    /** Mostly low .. high; one in thirty is odd. */
    private int num(int low, int high) {
        return below(30) == 0 ? ODD[below(ODD.length)] : low + below(high - low + 1);
    }

    private int aSide() {
        return num(0, Math.max(0, n.sides.size() - 1));
    }

    private int day() {
        return num(0, dayScale - 1);
    }

    private int orNone(int high) {
        return below(3) == 0 ? -9 : num(0, high);
    }

    private int set(int most) {
        int set = 0;
        int bits = below(most + 1);
        for (int i = 0; i < bits && !n.sides.isEmpty(); i++) set |= 1 << below(n.sides.size());
        return below(40) == 0 ? ODD[below(ODD.length)] : set;
    }

    private void due(int got, int want) {
        T.due(call, got, want);
    }

    private void name(String name, int... args) {
        StringBuilder text = new StringBuilder(name).append('(');
        for (int i = 0; i < args.length; i++) text.append(i == 0 ? "" : ", ").append(args[i]);
        call = text.append(')').toString();
    }

    private void step(int part) {
        switch (part) {
            case 0 -> sides(below(SIDES));
            case 1 -> plans(below(PLANS));
            case 2 -> speeds(below(SPEEDS));
            case 3 -> pieces(below(PIECES));
            case 4 -> texts(below(TEXTS));
            default -> copies(below(COPIES));
        }
    }

    private void sides(int which) {
        int a = aSide(), b, c, d;
        switch (which) {
            case 0 -> {
                a = num(0, 20);
                b = num(0, 100);
                c = num(0, 15);
                d = num(0, 6);
                name("side", a, b, c, d);
                due(x.side(a, b, c, d), n.side(a, b, c, d));
            }
            case 1 -> {
                b = num(1, 12);
                c = num(1, 12);
                name("hours", a, b, c);
                due(x.hours(a, b, c), n.hours(a, b, c));
            }
            case 2 -> {
                b = num(0, 8);
                name("told", a, b);
                due(x.told(a, b), n.told(a, b));
            }
            case 3 -> {
                b = below(2);
                name("read", a, b);
                due(x.read(a, b == 1), n.read(a, b == 1));
            }
            default -> {
                // years are few, so that sides do not all rot away
                a = below(8) == 0 ? num(1, 3) : 0;
                name("pass", a);
                due(x.pass(a), n.pass(a));
            }
        }
    }

    private void plans(int which) {
        int set = set(6), years = num(1, 3), c, d;
        switch (which) {
            case 0 -> {
                c = num(0, 40);
                name("best", set, years, c);
                due(x.best(set, years, c), n.best(set, years, c));
            }
            case 1 -> {
                c = num(0, 40);
                d = aSide();
                name("does", set, years, c, d);
                due(x.does(set, years, c, d), n.does(set, years, c, d));
            }
            default -> {
                c = num(0, 5000);
                name("needed", set, years, c);
                due(x.needed(set, years, c), n.needed(set, years, c));
            }
        }
    }

    private void speeds(int which) {
        int a = n.sides.isEmpty() ? 0 : below(Math.min(2, n.sides.size())), b, c, d;
        switch (which) {
            case 0 -> {
                b = num(1, speedScale);
                c = below(10) == 0 ? num(1, speedScale) : b + below(speedScale / 3);
                d = num(1, 4);
                name("sign", a, b, c, d);
                due(x.sign(a, b, c, d), n.sign(a, b, c, d));
            }
            case 1 -> {
                a = below(3) == 0 ? num(0, 59) : 60;
                name("drop", a);
                due(x.drop(a), n.drop(a));
            }
            case 2 -> {
                name("speed", a);
                due(x.speed(a), n.speed(a));
            }
            case 3 -> {
                name("span", a);
                due(x.span(a), n.span(a));
            }
            case 4 -> {
                b = num(1, speedScale);
                name("weighs", a, b);
                due(x.weighs(a, b), n.weighs(a, b));
            }
            default -> {
                name("quarrels", a);
                due(x.quarrels(a), n.quarrels(a));
            }
        }
    }

    private void pieces(int which) {
        int a, b;
        switch (which) {
            case 0 -> {
                a = num(0, below(2) == 0 ? 99 : 6);
                b = num(0, below(2) == 0 ? 99 : 6);
                name("piece", a, b);
                due(x.piece(a, b), n.piece(a, b));
            }
            case 1 -> {
                if (below(8) != 0) return;
                name("sweep");
                due(x.sweep(), n.sweep());
            }
            case 2 -> {
                a = num(0, below(2) == 0 ? 99 : 6);
                name("tolerance", a);
                due(x.tolerance(a), n.tolerance(a));
            }
            case 3 -> {
                name("rows");
                due(x.rows(), n.rows());
            }
            case 4 -> {
                name("misfit");
                due(x.misfit(), n.misfit());
            }
            default -> {
                a = num(0, 6);
                name("inRow", a);
                due(x.inRow(a), n.inRow(a));
            }
        }
    }

    private void texts(int which) {
        int a, b, c, d;
        switch (which) {
            case 0 -> {
                a = aSide();
                b = below(2) == 0 ? 1 << below(3) : num(0, 255);
                c = num(0, 3);
                name("sung", a, b, c);
                due(x.sung(a, b, c), n.sung(a, b, c));
            }
            case 1 -> {
                a = num(0, below(2) == 0 ? 7 : 2);
                b = orNone(3);
                c = orNone(5);
                d = day();
                boolean lets = below(3) != 0;
                name("text", a, b, c, d, lets ? 1 : 0);
                due(x.text(a, b, c, d, lets), n.text(a, b, c, d, lets));
            }
            case 2 -> {
                a = num(0, 7);
                b = num(0, 3);
                c = num(0, 5);
                d = day();
                name("counts", a, b, c, d);
                due(x.counts(a, b, c, d), n.counts(a, b, c, d));
            }
            case 3 -> {
                a = aSide();
                b = num(0, 5);
                c = day();
                name("may", a, b, c);
                due(x.may(a, b, c), n.may(a, b, c));
            }
            case 4 -> {
                a = num(0, 5);
                b = day();
                name("heard", a, b);
                due(x.heard(a, b), n.heard(a, b));
            }
            default -> {
                a = set(2);
                b = num(0, 5);
                c = day();
                d = below(3) == 0 ? day() : Math.min(9999, Math.max(0, c)) + below(50);
                name("days", a, b, c, d);
                due(x.days(a, b, c, d), n.days(a, b, c, d));
            }
        }
    }

    private void copies(int which) {
        int a = aSide(), b;
        switch (which) {
            case 0 -> {
                b = below(6) == 0 ? -9 : aSide();
                name("copy", a, b);
                due(x.copy(a, b), n.copy(a, b));
            }
            case 1 -> {
                name("copies", a);
                due(x.copies(a), n.copies(a));
            }
            case 2 -> {
                name("clearest", a);
                due(x.clearest(a), n.clearest(a));
            }
            default -> {
                a = num(0, 5);
                name("total", a);
                due(x.total(a), n.total(a));
            }
        }
    }
}
