/** Promises 10 to 15, and 31 for SIGNS. */
public final class SpeedsTest {
    private static final Check T = new Check("speeds");
    private static final int NONE = WaxVoices.NONE, UNKNOWN = WaxVoices.UNKNOWN, BAD = WaxVoices.BAD;

    public static void main(String[] args) {
        signsAreNumbered();
        signsAreDropped();
        theSpeedIsTheLeastOfTheHeaviest();
        theSpanGoesOnWhileItWeighsAsMuch();
        theSpanEndsAtTheLastSpeed();
        weightsAreAdded();
        pairsQuarrel();
        T.end();
    }

    private static void signsAreNumbered() {
        WaxVoices x = Check.withSides(2);
        for (int i = 0; i < 60; i++) {
            T.due("sign " + i, x.sign(i % 2, 1, 2, 1), i);
        }
        T.due("the 61st", x.sign(0, 1, 2, 1), WaxVoices.FULL);
        T.due("BAD goes before FULL", x.sign(0, 0, 2, 1), BAD);
        T.due("UNKNOWN goes before FULL", x.sign(2, 1, 2, 1), UNKNOWN);
        T.due("total(2)", x.total(2), 60);
        T.due("drop(59)", x.drop(59), 1);
        T.due("total(2)", x.total(2), 59);
        T.due("a dropped one keeps its number", x.sign(0, 1, 2, 1), WaxVoices.FULL);
        T.due("29 of side 1", x.weighs(1, 1), 29);
        T.due("30 of side 0", x.weighs(0, 2), 30);
    }

    private static void signsAreDropped() {
        WaxVoices x = Check.withSides(1);
        T.due("drop(0)", x.drop(0), UNKNOWN);
        x.sign(0, 10, 20, 5);
        T.due("drop(1)", x.drop(1), UNKNOWN);
        T.due("drop(-1)", x.drop(-1), UNKNOWN);
        T.due("drop(0)", x.drop(0), 1);
        T.due("drop(0) again", x.drop(0), WaxVoices.STATE);
        T.due("it weighs no more", x.weighs(0, 15), 0);
        T.due("no speed", x.speed(0), NONE);
        T.due("no span", x.span(0), NONE);
        T.due("total(2)", x.total(2), 0);
        T.due("the next number", x.sign(0, 30, 40, 5), 1);
        T.due("it is the speed", x.speed(0), 30);
    }

    private static void theSpeedIsTheLeastOfTheHeaviest() {
        WaxVoices x = Check.withSides(2);
        x.sign(0, 500, 600, 3);
        x.sign(0, 100, 200, 3);
        T.due("the least of like ones", x.speed(0), 100);
        T.due("its span", x.span(0), 200);
        x.sign(0, 550, 900, 1);
        T.due("the heaviest", x.speed(0), 550);
        T.due("its span", x.span(0), 600);
        T.due("another side has none", x.speed(1), NONE);
        T.due("another side has none", x.span(1), NONE);
        T.due("side 2", x.speed(2), UNKNOWN);
        T.due("side -1", x.speed(-1), UNKNOWN);
        T.due("side 2", x.span(2), UNKNOWN);
        T.due("side -9", x.span(-9), UNKNOWN);
    }

    private static void theSpanGoesOnWhileItWeighsAsMuch() {
        WaxVoices x = Check.withSides(1);
        x.sign(0, 10, 20, 4);
        x.sign(0, 21, 30, 1);
        x.sign(0, 21, 25, 3);
        x.sign(0, 26, 40, 3);
        T.due("speed", x.speed(0), 10);
        T.due("through two changes", x.span(0), 30);
        x.sign(0, 50, 60, 4);
        T.due("a gap ends it", x.span(0), 30);
        x.drop(1);
        T.due("less ends it", x.span(0), 20);
        x.sign(0, 5, 9, 4);
        T.due("one ahead begins it", x.speed(0), 5);
        T.due("and goes on", x.span(0), 20);
        x.sign(0, 12, 12, 1);
        T.due("one speed alone", x.speed(0), 12);
        T.due("one speed alone", x.span(0), 12);
    }

    private static void theSpanEndsAtTheLastSpeed() {
        WaxVoices x = Check.withSides(1);
        x.sign(0, 29999, 30000, 2);
        T.due("speed", x.speed(0), 29999);
        T.due("span", x.span(0), 30000);
        x.sign(0, 30000, 30000, 2);
        T.due("speed", x.speed(0), 30000);
        T.due("span", x.span(0), 30000);
    }

    private static void weightsAreAdded() {
        WaxVoices x = Check.withSides(2);
        x.sign(0, 10, 20, 4);
        x.sign(0, 20, 30, 5);
        x.sign(1, 1, 30000, 9);
        T.due("ahead of it", x.weighs(0, 9), 0);
        T.due("at low", x.weighs(0, 10), 4);
        T.due("both", x.weighs(0, 20), 9);
        T.due("at high", x.weighs(0, 30), 5);
        T.due("behind it", x.weighs(0, 31), 0);
        T.due("speed 1", x.weighs(1, 1), 9);
        T.due("speed 30000", x.weighs(1, 30000), 9);
        T.due("speed 0", x.weighs(1, 0), BAD);
        T.due("speed 30001", x.weighs(1, 30001), BAD);
        T.due("UNKNOWN goes before BAD", x.weighs(2, 0), UNKNOWN);
    }

    private static void pairsQuarrel() {
        WaxVoices x = Check.withSides(2);
        T.due("none", x.quarrels(0), 0);
        x.sign(0, 10, 20, 1);
        x.sign(0, 20, 30, 1);
        T.due("one speed is held by both", x.quarrels(0), 0);
        x.sign(0, 31, 40, 1);
        T.due("31 quarrels with both", x.quarrels(0), 2);
        x.sign(0, 1, 9, 1);
        T.due("9 quarrels with all", x.quarrels(0), 5);
        x.sign(1, 500, 600, 1);
        T.due("another side's count not", x.quarrels(0), 5);
        T.due("a single one", x.quarrels(1), 0);
        x.drop(0);
        T.due("a dropped one quarrels no more", x.quarrels(0), 3);
        T.due("side 2", x.quarrels(2), UNKNOWN);
        T.due("side -1", x.quarrels(-1), UNKNOWN);
    }
}
