/** Promises 1 to 6, and 31 for what they change. */
public final class SidesTest {
    private static final Check T = new Check("sides");
    private static final int MIN = Integer.MIN_VALUE, MAX = Integer.MAX_VALUE;

    public static void main(String[] args) {
        aNewObjectIsEmpty();
        sidesAreNumbered();
        sidesAreRefused();
        hoursAreSet();
        toldTellsAll();
        readingLoses();
        readingIsRefused();
        yearsPass();
        yearsAreRefused();
        rotCountsFromTheYearOfMaking();
        T.end();
    }

    private static void aNewObjectIsEmpty() {
        WaxVoices x = new WaxVoices();
        for (int what = 0; what <= 5; what++) {
            T.due("new: total(" + what + ")", x.total(what), 0);
        }
        T.due("total(-1)", x.total(-1), WaxVoices.BAD);
        T.due("total(6)", x.total(6), WaxVoices.BAD);
        T.due("total(MIN)", x.total(MIN), WaxVoices.BAD);
        T.due("total(MAX)", x.total(MAX), WaxVoices.BAD);
        T.due("new: told(0, 0)", x.told(0, 0), WaxVoices.UNKNOWN);
        T.due("new: speed(0)", x.speed(0), WaxVoices.UNKNOWN);
        T.due("new: rows()", x.rows(), 0);
        T.due("new: tolerance(0)", x.tolerance(0), 0);
        T.due("new: heard(0, 0)", x.heard(0, 0), 0);
        T.due("new: best(0, 1, 0)", x.best(0, 1, 0), 0);
        T.due("new: best(1, 1, 0)", x.best(1, 1, 0), WaxVoices.UNKNOWN);
        x.side(1, 1, 1, 1);
        T.due("another new one shares nothing", new WaxVoices().total(0), 0);
    }

    private static void sidesAreNumbered() {
        WaxVoices x = new WaxVoices();
        for (int i = 0; i < 16; i++) {
            T.due("side " + i, x.side(i, 2 * i, 3, 4), i);
        }
        T.due("the 17th side", x.side(1, 1, 1, 1), WaxVoices.FULL);
        T.due("BAD goes before FULL", x.side(1001, 1, 1, 1), WaxVoices.BAD);
        T.due("total(0)", x.total(0), 16);
        T.due("total(5)", x.total(5), 240);
        T.due("the 16th side's worth", x.told(15, 0), 15);
    }

    private static void sidesAreRefused() {
        WaxVoices x = new WaxVoices();
        T.due("worth -1", x.side(-1, 1, 1, 1), WaxVoices.BAD);
        T.due("worth 1001", x.side(1001, 1, 1, 1), WaxVoices.BAD);
        T.due("sound -1", x.side(1, -1, 1, 1), WaxVoices.BAD);
        T.due("sound 101", x.side(1, 101, 1, 1), WaxVoices.BAD);
        T.due("wear -1", x.side(1, 1, -1, 1), WaxVoices.BAD);
        T.due("wear 101", x.side(1, 1, 101, 1), WaxVoices.BAD);
        T.due("rot -1", x.side(1, 1, 1, -1), WaxVoices.BAD);
        T.due("rot 101", x.side(1, 1, 1, 101), WaxVoices.BAD);
        T.due("worth MIN", x.side(MIN, 1, 1, 1), WaxVoices.BAD);
        T.due("rot MAX", x.side(1, 1, 1, MAX), WaxVoices.BAD);
        T.due("nothing was made", x.total(0), 0);
        T.due("the least", x.side(0, 0, 0, 0), 0);
        T.due("the most", x.side(1000, 100, 100, 100), 1);
    }

    private static void hoursAreSet() {
        WaxVoices x = new WaxVoices();
        T.due("no such side", x.hours(0, 0, 0), WaxVoices.UNKNOWN);
        x.side(1, 1, 1, 1);
        T.due("10 by light at first", x.told(0, 4), 10);
        T.due("5 by needle at first", x.told(0, 5), 5);
        T.due("side 1", x.hours(1, 1, 1), WaxVoices.UNKNOWN);
        T.due("side -1", x.hours(-1, 0, 1), WaxVoices.UNKNOWN);
        T.due("light 0", x.hours(0, 0, 1), WaxVoices.BAD);
        T.due("light 1001", x.hours(0, 1001, 1), WaxVoices.BAD);
        T.due("needle 0", x.hours(0, 1, 0), WaxVoices.BAD);
        T.due("needle 1001", x.hours(0, 1, 1001), WaxVoices.BAD);
        T.due("refused: light stays", x.told(0, 4), 10);
        T.due("refused: needle stays", x.told(0, 5), 5);
        T.due("1 and 1000", x.hours(0, 1, 1000), 1);
        T.due("light", x.told(0, 4), 1);
        T.due("needle", x.told(0, 5), 1000);
        T.due("1000 and 1", x.hours(0, 1000, 1), 1);
        T.due("light", x.told(0, 4), 1000);
        T.due("needle", x.told(0, 5), 1);
    }

    private static void toldTellsAll() {
        WaxVoices x = new WaxVoices();
        x.side(11, 22, 33, 44);
        int[] want = {11, 22, 33, 44, 10, 5, 0, WaxVoices.NONE, WaxVoices.NONE};
        for (int what = 0; what < want.length; what++) {
            T.due("told(0, " + what + ")", x.told(0, what), want[what]);
        }
        T.due("told(0, -1)", x.told(0, -1), WaxVoices.BAD);
        T.due("told(0, 9)", x.told(0, 9), WaxVoices.BAD);
        T.due("told(1, 9): UNKNOWN goes first", x.told(1, 9), WaxVoices.UNKNOWN);
        T.due("told(NONE, 0)", x.told(WaxVoices.NONE, 0), WaxVoices.UNKNOWN);
        T.due("told(MIN, 0)", x.told(MIN, 0), WaxVoices.UNKNOWN);
        T.due("told(MAX, 0)", x.told(MAX, 0), WaxVoices.UNKNOWN);
    }

    private static void readingLoses() {
        WaxVoices x = new WaxVoices();
        x.side(1, 50, 20, 3);
        x.side(1, 40, 20, 0);
        T.due("by light", x.read(0, false), 50);
        T.due("light is no play", x.told(0, 6), 0);
        T.due("light is a reading", x.told(0, 7), 0);
        x.pass(2);
        T.due("by needle", x.read(0, true), 24);
        T.due("one play", x.told(0, 6), 1);
        T.due("in year 2", x.told(0, 7), 2);
        x.pass(1);
        T.due("by light again", x.read(0, false), 21);
        T.due("in year 3", x.told(0, 7), 3);
        T.due("by needle again", x.read(0, true), 1);
        T.due("down to nothing, not below", x.read(0, true), 0);
        T.due("three plays", x.told(0, 6), 3);
        T.due("the other side lost nothing", x.told(1, 1), 40);
        T.due("the other side was not read", x.told(1, 7), WaxVoices.NONE);
        T.due("total(5)", x.total(5), 40);
    }

    private static void readingIsRefused() {
        WaxVoices x = new WaxVoices();
        T.due("no such side", x.read(0, false), WaxVoices.UNKNOWN);
        x.side(1, 0, 0, 0);
        T.due("not sound, light", x.read(0, false), WaxVoices.STATE);
        T.due("not sound, needle", x.read(0, true), WaxVoices.STATE);
        T.due("no play", x.told(0, 6), 0);
        T.due("no reading", x.told(0, 7), WaxVoices.NONE);
        T.due("side -1", x.read(-1, true), WaxVoices.UNKNOWN);
        T.due("side 1", x.read(1, true), WaxVoices.UNKNOWN);
    }

    private static void yearsPass() {
        WaxVoices x = new WaxVoices();
        x.side(1, 100, 0, 30);
        T.due("pass(1)", x.pass(1), 1);
        T.due("sound", x.told(0, 1), 70);
        T.due("pass(2)", x.pass(2), 3);
        T.due("sound", x.told(0, 1), 10);
        T.due("pass(1)", x.pass(1), 4);
        T.due("never below 0", x.told(0, 1), 0);
        T.due("total(1)", x.total(1), 4);
    }

    private static void yearsAreRefused() {
        WaxVoices x = new WaxVoices();
        x.side(1, 100, 0, 1);
        T.due("pass(0)", x.pass(0), WaxVoices.BAD);
        T.due("pass(-1)", x.pass(-1), WaxVoices.BAD);
        T.due("pass(101)", x.pass(101), WaxVoices.BAD);
        T.due("pass(MAX)", x.pass(MAX), WaxVoices.BAD);
        for (int i = 1; i <= 9; i++) {
            T.due("pass(100)", x.pass(100), 100 * i);
        }
        x.side(1, 100, 0, 1);
        T.due("pass(99)", x.pass(99), 999);
        T.due("above 1000", x.pass(2), WaxVoices.FULL);
        T.due("BAD goes before FULL", x.pass(101), WaxVoices.BAD);
        T.due("refused: no year", x.total(1), 999);
        T.due("refused: no rot", x.told(1, 1), 1);
        T.due("the 1000th", x.pass(1), 1000);
        T.due("above 1000", x.pass(1), WaxVoices.FULL);
    }

    private static void rotCountsFromTheYearOfMaking() {
        WaxVoices x = new WaxVoices();
        x.pass(10);
        x.side(1, 100, 0, 10);
        T.due("sound as it came", x.told(0, 1), 100);
        x.pass(3);
        T.due("three years of rot", x.told(0, 1), 70);
    }
}
