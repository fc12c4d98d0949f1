/** Promises 1 to 6, and 31 for what they change. */
public final class SidesTest {
    private static final Check T = new Check("sides");
    private static final int MIN = Integer.MIN_VALUE, MAX = Integer.MAX_VALUE;

    public static void main(String[] args) {
        aNewObjectIsEmpty();
        sidesAreNumbered();
        toldTellsAll();
        readingLoses();
        yearsPass();
        T.end();
    }

    private static void aNewObjectIsEmpty() {
        WaxVoices x = new WaxVoices();
        for (int what = 0; what <= 5; what++) {
            T.due("new: total(" + what + ")", x.total(what), 0);
        }
        T.due("total(-1)", x.total(-1), WaxVoices.BAD);
        T.due("total(6)", x.total(6), WaxVoices.BAD);
        T.due("total(MIN)", x.total(MIN), WaxVoices.BAD);
        T.due("total(MAX)", x.total(MAX), WaxVoices.BAD);
        T.due("new: told(0, 0)", x.told(0, 0), WaxVoices.UNKNOWN);
        T.due("new: speed(0)", x.speed(0), WaxVoices.UNKNOWN);
        T.due("new: rows()", x.rows(), 0);
        T.due("new: tolerance(0)", x.tolerance(0), 0);
        T.due("new: heard(0, 0)", x.heard(0, 0), 0);
        T.due("new: best(0, 1, 0)", x.best(0, 1, 0), 0);
        T.due("new: best(1, 1, 0)", x.best(1, 1, 0), WaxVoices.UNKNOWN);
        x.side(1, 1, 1, 1);
        T.due("another new one shares nothing", new WaxVoices().total(0), 0);
    }

    private static void sidesAreNumbered() {
        WaxVoices x = new WaxVoices();
        for (int i = 0; i < 16; i++) {
            T.due("side " + i, x.side(i, 2 * i, 3, 4), i);
        }
        T.due("the 17th side", x.side(1, 1, 1, 1), WaxVoices.FULL);
        T.due("BAD goes before FULL", x.side(1001, 1, 1, 1), WaxVoices.BAD);
        T.due("total(0)", x.total(0), 16);
        T.due("total(5)", x.total(5), 240);
        T.due("the 16th side's worth", x.told(15, 0), 15);
    }

    private static void toldTellsAll() {
        WaxVoices x = new WaxVoices();
        x.side(11, 22, 33, 44);
        int[] want = {11, 22, 33, 44, 10, 5, 0, WaxVoices.NONE, WaxVoices.NONE};
        for (int what = 0; what < want.length; what++) {
            T.due("told(0, " + what + ")", x.told(0, what), want[what]);
        }
        T.due("told(0, -1)", x.told(0, -1), WaxVoices.BAD);
        T.due("told(0, 9)", x.told(0, 9), WaxVoices.BAD);
        T.due("told(1, 9): UNKNOWN goes first", x.told(1, 9), WaxVoices.UNKNOWN);
        T.due("told(NONE, 0)", x.told(WaxVoices.NONE, 0), WaxVoices.UNKNOWN);
        T.due("told(MIN, 0)", x.told(MIN, 0), WaxVoices.UNKNOWN);
        T.due("told(MAX, 0)", x.told(MAX, 0), WaxVoices.UNKNOWN);
    }

    private static void readingLoses() {
        WaxVoices x = new WaxVoices();
        x.side(1, 50, 20, 3);
        x.side(1, 40, 20, 0);
        T.due("by light", x.read(0, false), 50);
        T.due("light is no play", x.told(0, 6), 0);
        T.due("light is a reading", x.told(0, 7), 0);
        x.pass(2);
        T.due("by needle", x.read(0, true), 24);
        T.due("one play", x.told(0, 6), 1);
        T.due("in year 2", x.told(0, 7), 2);
        x.pass(1);
        T.due("by light again", x.read(0, false), 21);
        T.due("in year 3", x.told(0, 7), 3);
        T.due("by needle again", x.read(0, true), 1);
        T.due("down to nothing, not below", x.read(0, true), 0);
        T.due("three plays", x.told(0, 6), 3);
        T.due("the other side lost nothing", x.told(1, 1), 40);
        T.due("the other side was not read", x.told(1, 7), WaxVoices.NONE);
        T.due("total(5)", x.total(5), 40);
    }

    private static void yearsPass() {
        WaxVoices x = new WaxVoices();
        x.side(1, 100, 0, 30);
        T.due("pass(1)", x.pass(1), 1);
        T.due("sound", x.told(0, 1), 70);
        T.due("pass(2)", x.pass(2), 3);
        T.due("sound", x.told(0, 1), 10);
        T.due("pass(1)", x.pass(1), 4);
        T.due("never below 0", x.told(0, 1), 0);
        T.due("total(1)", x.total(1), 4);
    }
}
