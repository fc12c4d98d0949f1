/** Promises 7 to 9. */
public final class PlansTest {
    private static final Check T = new Check("plans");
    private static final int NONE = WaxVoices.NONE, UNKNOWN = WaxVoices.UNKNOWN, BAD = WaxVoices.BAD;

    public static void main(String[] args) {
        oneSide();
        likePlans();
        lightOrNeedle();
        yearsAreCountedFromNow();
        readsWhatIsWorthNothing();
        theMost();
        hoursNeeded();
        plansChangeNothing();
        T.end();
    }

    private static void oneSide() {
        WaxVoices x = new WaxVoices();
        x.side(10, 50, 7, 4);
        T.due("needle alone fits", x.best(1, 1, 5), 430);
        T.due("by needle", x.does(1, 1, 5, 0), 1);
        T.due("light fits", x.best(1, 1, 10), 500);
        T.due("by light", x.does(1, 1, 10, 0), 0);
        T.due("nothing fits", x.best(1, 3, 4), 0);
        T.due("not at all", x.does(1, 3, 4, 0), NONE);
        T.due("the first year is best", x.does(1, 3, 10, 0), 0);
        T.due("the empty set", x.best(0, 3, 3000), 0);
        T.due("not of the set", x.does(0, 3, 3000, 0), NONE);
    }

    private static void likePlans() {
        WaxVoices x = new WaxVoices();
        for (int i = 0; i < 4; i++) {
            x.side(10, 10, 0, 0);
        }
        // wear 0, rot 0: all that is read saves 100, so only the order tells
        T.due("one by light alone", x.does(1, 2, 10, 0), 0);
        T.due("two in 10 hours of two years", x.best(3, 2, 10), 200);
        T.due("the first: light, first year", x.does(3, 2, 10, 0), 0);
        T.due("the second: light, second year", x.does(3, 2, 10, 1), 2);
        T.due("three in 10 hours of two years", x.best(7, 2, 10), 300);
        T.due("light, first year", x.does(7, 2, 10, 0), 0);
        T.due("needle, second year", x.does(7, 2, 10, 1), 3);
        T.due("needle, second year", x.does(7, 2, 10, 2), 3);
        T.due("four in 10 hours of two years", x.best(15, 2, 10), 400);
        for (int i = 0; i < 4; i++) {
            T.due("two and two by needle", x.does(15, 2, 10, i), i < 2 ? 1 : 3);
        }
        T.due("one of two in 9 hours", x.best(3, 1, 9), 100);
        T.due("the first one", x.does(3, 1, 9, 0), 1);
        T.due("the second one not", x.does(3, 1, 9, 1), NONE);
        T.due("places go by number", x.does(10, 1, 15, 3), 1);
        T.due("places go by number", x.does(10, 1, 15, 1), 0);
    }

    private static void lightOrNeedle() {
        WaxVoices x = new WaxVoices();
        x.side(10, 50, 20, 0);
        x.side(10, 50, 1, 0);
        x.hours(0, 100, 1);
        x.hours(1, 100, 1);
        T.due("101 hours", x.best(3, 1, 101), 990);
        T.due("light for what the needle hurts", x.does(3, 1, 101, 0), 0);
        T.due("needle for the other", x.does(3, 1, 101, 1), 1);
        x.hours(0, 1, 100);
        T.due("needle may take longer", x.best(3, 1, 2), 990);
        T.due("light", x.does(3, 1, 2, 0), 0);
    }

    private static void yearsAreCountedFromNow() {
        WaxVoices x = new WaxVoices();
        x.side(10, 100, 10, 10);
        x.side(10, 100, 10, 5);
        x.side(10, 100, 10, 1);
        x.pass(2);
        for (int i = 0; i < 3; i++) {
            x.hours(i, 10, 10);
        }
        T.due("one each year", x.best(7, 3, 10), 800 + 850 + 960);
        T.due("what rots most first", x.does(7, 3, 10, 0), 0);
        T.due("then the next", x.does(7, 3, 10, 1), 2);
        T.due("then the last", x.does(7, 3, 10, 2), 4);
        x.read(0, true);
        T.due("a play is lost", x.best(1, 1, 10), 700);
    }

    private static void readsWhatIsWorthNothing() {
        WaxVoices x = new WaxVoices();
        x.side(0, 100, 0, 0);
        x.side(10, 0, 0, 0);
        T.due("it saves nothing", x.best(3, 1, 20), 0);
        T.due("reading is the first of like ones", x.does(3, 1, 20, 0), 0);
        T.due("reading is the first of like ones", x.does(3, 1, 20, 1), 0);
        T.due("by needle where hours are short", x.does(3, 1, 15, 1), 1);
        x.side(10, 5, 10, 10);
        T.due("sound is never below 0", x.best(4, 3, 9), 0);
        T.due("by needle, saving 0", x.does(4, 3, 9, 2), 1);
    }

    private static void theMost() {
        WaxVoices x = new WaxVoices();
        for (int i = 0; i < 16; i++) {
            x.side(1000, 100, 0, 0);
            x.hours(i, 1000, 1000);
        }
        int six = 0b1000_0100_0011_0110;
        T.due("six in three years", x.best(six, 3, 2000), 600000);
        T.due("two a year", x.does(six, 3, 2000, 15), 4);
        T.due("three in one year", x.best(six, 1, 3000), 300000);
        T.due("all six need", x.needed(six, 3, 600000), 2000);
        T.due("all six in two years need", x.needed(six, 2, 600000), 3000);
        T.due("all six in a year need too many", x.needed(six, 1, 600000), NONE);
        T.due("three in a year", x.needed(six, 1, 300000), 3000);
        T.due("seven", x.best(six | 1, 3, 2000), BAD);
        T.due("the 16th bit alone", x.best(1 << 15, 1, 1000), 100000);
    }

    private static void hoursNeeded() {
        WaxVoices x = new WaxVoices();
        x.side(10, 50, 7, 4);
        T.due("nothing needs nothing", x.needed(1, 1, 0), 0);
        T.due("one by needle", x.needed(1, 1, 1), 5);
        T.due("all that the needle saves", x.needed(1, 1, 430), 5);
        T.due("one more by light", x.needed(1, 1, 431), 10);
        T.due("all by light", x.needed(1, 1, 500), 10);
        T.due("more than there is", x.needed(1, 1, 501), NONE);
        T.due("the most that may be asked", x.needed(1, 1, 600000), NONE);
        T.due("the empty set, 0", x.needed(0, 2, 0), 0);
        T.due("the empty set, 1", x.needed(0, 2, 1), NONE);
        x.hours(0, 1, 1);
        T.due("one hour", x.needed(1, 3, 500), 1);
        x.side(10, 50, 7, 0);
        x.hours(1, 1, 1);
        T.due("two years share no hours", x.needed(3, 2, 1000), 1);
        T.due("one year", x.needed(3, 1, 1000), 2);
    }

    private static void plansChangeNothing() {
        WaxVoices x = new WaxVoices();
        x.side(10, 50, 7, 4);
        x.best(1, 3, 20);
        x.does(1, 3, 5, 0);
        x.needed(1, 3, 400);
        T.due("no play", x.told(0, 6), 0);
        T.due("no reading", x.told(0, 7), NONE);
        T.due("as sound", x.told(0, 1), 50);
        T.due("the year", x.total(1), 0);
    }
}
