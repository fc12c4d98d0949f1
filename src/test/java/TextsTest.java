/** Promises 22 to 27, and 31 for TEXTS. */
public final class TextsTest {
    private static final Check T = new Check("texts");
    private static final int NONE = WaxVoices.NONE, UNKNOWN = WaxVoices.UNKNOWN, BAD = WaxVoices.BAD;

    public static void main(String[] args) {
        sungIsSet();
        textsAreNumbered();
        theLatestDayCounts();
        anySongAnyHearer();
        eachFamilyMustLet();
        allThatIsHeard();
        daysAreCounted();
        T.end();
    }

    private static void sungIsSet() {
        WaxVoices x = Check.withSides(1);
        T.due("none at first", x.sung(0, 255, 3), 0);
        T.due("all", x.sung(0, 5, 0), 255);
        T.due("side 1", x.sung(1, 1, 0), UNKNOWN);
        T.due("side -1", x.sung(-1, 256, 0), UNKNOWN);
        T.due("song 4", x.sung(0, 1, 4), UNKNOWN);
        T.due("song -1", x.sung(0, 1, -1), UNKNOWN);
        T.due("song NONE", x.sung(0, 1, NONE), UNKNOWN);
        T.due("UNKNOWN goes before BAD", x.sung(0, 256, 4), UNKNOWN);
        T.due("set 256", x.sung(0, 256, 1), BAD);
        T.due("set -1", x.sung(0, -1, 1), BAD);
        T.due("refused: it stays", x.sung(0, 0, 0), 5);
    }

    private static void textsAreNumbered() {
        WaxVoices x = new WaxVoices();
        for (int i = 0; i < 60; i++) {
            T.due("text " + i, x.text(i % 8, NONE, NONE, 100 - i, true), i);
        }
        T.due("the 61st", x.text(0, 0, 0, 0, true), WaxVoices.FULL);
        T.due("BAD goes before FULL", x.text(0, 0, 0, -1, true), BAD);
        T.due("UNKNOWN goes before FULL", x.text(8, 0, 0, 0, true), UNKNOWN);
        T.due("total(4)", x.total(4), 60);
        T.due("the latest day has the least number", x.counts(0, 0, 0, 100), 0);
        T.due("a day ahead of it", x.counts(0, 0, 0, 99), 8);
        T.due("the last number is the first day", x.counts(3, 0, 0, 41), 59);
    }

    private static void theLatestDayCounts() {
        WaxVoices x = new WaxVoices();
        T.due("none", x.counts(0, 0, 0, 9999), NONE);
        x.text(0, 0, 0, 50, true);
        x.text(0, 0, 0, 20, false);
        x.text(0, 0, 0, 50, false);
        x.text(0, 0, 0, 20, true);
        T.due("ahead of all", x.counts(0, 0, 0, 19), NONE);
        T.due("of like days the latest text", x.counts(0, 0, 0, 20), 3);
        T.due("until the next", x.counts(0, 0, 0, 49), 3);
        T.due("the latest day", x.counts(0, 0, 0, 50), 2);
        T.due("for good", x.counts(0, 0, 0, 9999), 2);
        T.due("another family", x.counts(1, 0, 0, 50), NONE);
        T.due("another song", x.counts(0, 1, 0, 50), NONE);
        T.due("another hearer", x.counts(0, 0, 1, 50), NONE);
    }

    private static void anySongAnyHearer() {
        WaxVoices x = new WaxVoices();
        x.text(2, NONE, 1, 10, true);
        x.text(2, 3, NONE, 20, true);
        for (int song = 0; song < 4; song++) {
            T.due("any song", x.counts(2, song, 1, 19), 0);
            T.due("song " + song, x.counts(2, song, 1, 20), song == 3 ? 1 : 0);
        }
        for (int hearer = 0; hearer < 6; hearer++) {
            T.due("any hearer", x.counts(2, 3, hearer, 20), 1);
            T.due("hearer " + hearer, x.counts(2, 3, hearer, 19), hearer == 1 ? 0 : NONE);
        }
        x.text(2, 3, 1, 15, false);
        T.due("the nearer one does not go before the later", x.counts(2, 3, 1, 20), 1);
    }

    private static void eachFamilyMustLet() {
        WaxVoices x = Check.withSides(2);
        T.due("no family: any may", x.may(0, 5, 0), 1);
        x.sung(0, 0b10000001, 3);
        T.due("no text: not let", x.may(0, 5, 9999), 0);
        x.text(0, 3, 5, 10, true);
        T.due("one of two lets", x.may(0, 5, 10), 0);
        x.text(7, 3, 5, 12, true);
        T.due("the other does not yet", x.may(0, 5, 11), 0);
        T.due("both let", x.may(0, 5, 12), 1);
        T.due("another hearer", x.may(0, 4, 12), 0);
        x.text(0, NONE, NONE, 14, false);
        T.due("let until then", x.may(0, 5, 13), 1);
        T.due("let no more", x.may(0, 5, 14), 0);
        x.sung(0, 0b10000000, 3);
        T.due("without that family", x.may(0, 5, 14), 1);
        x.sung(0, 0b10000000, 2);
        T.due("another song", x.may(0, 5, 14), 0);
        T.due("another side", x.may(1, 5, 14), 1);
    }

    private static void allThatIsHeard() {
        WaxVoices x = Check.withSides(16);
        T.due("all without families", x.heard(0, 0), 65535);
        x.sung(15, 1, 0);
        x.sung(3, 2, 1);
        T.due("two less", x.heard(0, 0), 65535 - (1 << 15) - (1 << 3));
        x.text(0, 0, NONE, 5, true);
        T.due("one comes back", x.heard(0, 5), 65535 - (1 << 3));
        T.due("not a day ahead", x.heard(0, 4), 65535 - (1 << 15) - (1 << 3));
        T.due("hearer 6", x.heard(6, 0), UNKNOWN);
        T.due("hearer NONE", x.heard(NONE, -1), UNKNOWN);
        T.due("day -1", x.heard(0, -1), BAD);
        T.due("day 10000", x.heard(5, 10000), BAD);
    }

    private static void daysAreCounted() {
        WaxVoices x = Check.withSides(2);
        T.due("the empty set", x.days(0, 0, 0, 9999), 10000);
        T.due("no families", x.days(3, 0, 9999, 9999), 1);
        x.sung(0, 1, 0);
        x.sung(1, 2, 0);
        T.due("no texts", x.days(3, 0, 0, 9999), 0);
        x.text(0, 0, NONE, 10, true);
        x.text(1, 0, NONE, 20, true);
        x.text(0, 0, 0, 30, false);
        x.text(0, 0, 0, 40, true);
        T.due("side 0", x.days(1, 0, 0, 50), 20 + 11);
        T.due("side 1", x.days(2, 0, 0, 50), 31);
        T.due("both", x.days(3, 0, 0, 50), 10 + 11);
        T.due("both, another hearer", x.days(3, 1, 0, 50), 31);
        T.due("from within", x.days(3, 0, 25, 45), 5 + 6);
        T.due("one day that lets", x.days(3, 0, 29, 29), 1);
        T.due("one day that does not", x.days(3, 0, 30, 30), 0);
        T.due("the day on which it lets again", x.days(3, 0, 40, 40), 1);
        T.due("up to a text's day", x.days(3, 0, 30, 40), 1);
        T.due("all days", x.days(3, 0, 0, 9999), 10 + 9960);
        x.text(1, NONE, NONE, 40, false);
        T.due("of one day the latest text", x.days(2, 0, 0, 9999), 20);
    }
}
