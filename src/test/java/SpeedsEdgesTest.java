/** The boundary cases of 'Terms' part 2 (SIGNS) and of promises 10 to 15, one test for each sentence. */
public final class SpeedsEdgesTest {
    private static final Check T = new Check("edges of speeds");
    private static final Edges E = new Edges(T);

    private static final String TWO = "side(1, 1, 1, 1) side(1, 1, 1, 1) ";

    public static void main(String[] args) {
        promise10NumbersUpToFull();
        promise10DroppedOnesKeepTheirPlace();
        promise10Unknown();
        promise10Bad();
        promise10Full();
        promise10Order();
        promise11ForGood();
        promise11Unknown();
        promise11State();
        promise12None();
        promise12LeastAndGreatestSpeed();
        promise12TheLeastThatWeighsMost();
        promise12Unknown();
        promise13None();
        promise13OneSpeedAndAllSpeeds();
        promise13OneBehindTheOther();
        promise13AsMuch();
        promise13Unknown();
        promise14AtTheEnds();
        promise14LeastAndMost();
        promise14Unknown();
        promise14Bad();
        promise15NoSpeedIsHeldByBoth();
        promise15FewestAndMost();
        promise15OfThatSideThatCount();
        promise15Unknown();
        T.end();
    }

    private static void promise10NumbersUpToFull() {
        StringBuilder sixty = new StringBuilder(TWO);
        for (int i = 0; i < 60; i++) sixty.append("sign(").append(i % 2).append(", 1, 2, 1)=").append(i).append(' ');
        E.run("numbers 0 .. 59 of all SIDES together, then FULL", sixty + "sign(0, 1, 2, 1)=FULL sign(1, 1, 2, 1)=FULL "
                + "total(2)=60 weighs(0, 1)=30 weighs(1, 2)=30");
        E.run("what is refused takes no number", TWO + "sign(0, 0, 2, 1)=BAD sign(2, 1, 2, 1)=UNKNOWN sign(0, 1, 2, 1)=0 "
                + "sign(0, 1, 2, 10)=BAD sign(0, 1, 2, 1)=1");
    }

    private static void promise10DroppedOnesKeepTheirPlace() {
        E.run("its number stays its own", TWO + "sign(0, 1, 2, 1)=0 sign(0, 1, 2, 1)=1 drop(1)=1 sign(0, 1, 2, 1)=2 "
                + "drop(0)=1 sign(0, 1, 2, 1)=3 total(2)=2");
        E.run("60 of them, dropped or not", Edges.SIXTY_SIGNS + "drop(0)=1 drop(59)=1 sign(0, 1, 2, 1)=FULL total(2)=57");
    }

    private static void promise10Unknown() {
        E.numbers("no such SIDE", Edges.SOME, "sign(#, 1, 1, 1)", Edges.SIDES_OF_SOME);
        E.numbers("no such SIDE of sixteen", Edges.SIXTEEN_SIDES, "sign(#, 1, 1, 1)", 16);
    }

    private static void promise10Bad() {
        E.bounds("low is 1 .. high", Edges.SOME, "sign(2, #, 500, 1)", 1, 500, "BAD");
        E.bounds("low is 1 .. high, the least one", Edges.SOME, "sign(2, #, 1, 1)", 1, 1, "BAD");
        E.bounds("low is 1 .. high, the greatest one", Edges.SOME, "sign(2, #, 30000, 1)", 1, 30000, "BAD");
        E.bounds("high is low .. 30000", Edges.SOME, "sign(2, 500, #, 1)", 500, 30000, "BAD");
        E.bounds("WEIGHT 1 .. 9", Edges.SOME, "sign(2, 5, 5, #)", 1, 9, "BAD");
        E.still("low and high both too small or too large", Edges.SOME, "sign(2, 0, 0, 1)=BAD sign(2, -1, -1, 1)=BAD "
                + "sign(2, 30001, 30001, 1)=BAD sign(2, MAX, MAX, 1)=BAD sign(2, MIN, MAX, 1)=BAD sign(2, 0, 30000, 1)=BAD");
    }

    private static void promise10Full() {
        E.still("FULL alone", Edges.SIXTY_SIGNS, "sign(0, 1, 30000, 9)=FULL sign(4, 1, 1, 1)=FULL");
    }

    private static void promise10Order() {
        E.still("UNKNOWN is told ahead of BAD", Edges.SOME, "sign(5, 0, 5, 1)=UNKNOWN sign(-1, 5, 30001, 1)=UNKNOWN "
                + "sign(5, 5, 5, 0)=UNKNOWN sign(NONE, 6, 5, 10)=UNKNOWN");
        E.still("UNKNOWN is told ahead of FULL", Edges.SIXTY_SIGNS, "sign(5, 1, 1, 1)=UNKNOWN sign(-1, 1, 1, 1)=UNKNOWN");
        E.still("BAD is told ahead of FULL", Edges.SIXTY_SIGNS, "sign(0, 0, 5, 1)=BAD sign(0, 6, 5, 1)=BAD "
                + "sign(0, 5, 30001, 1)=BAD sign(0, 5, 5, 0)=BAD sign(0, 5, 5, 10)=BAD");
        E.still("UNKNOWN is told ahead of both", Edges.SIXTY_SIGNS, "sign(5, 0, 5, 0)=UNKNOWN");
    }

    private static void promise11ForGood() {
        E.run("it counts no more, the others do", TWO + "sign(0, 5, 6, 2) sign(0, 5, 6, 3) sign(1, 5, 6, 4) drop(1)=1 "
                + "weighs(0, 5)=2 weighs(1, 5)=4 total(2)=2 speed(0)=5 quarrels(0)=0");
        E.run("for good", TWO + "sign(0, 5, 6, 2) drop(0)=1 drop(0)=STATE weighs(0, 5)=0 sign(0, 5, 6, 2)=1 "
                + "drop(0)=STATE weighs(0, 5)=2 drop(1)=1 speed(0)=NONE");
    }

    private static void promise11Unknown() {
        E.numbers("no such SIGN of one", TWO + "sign(0, 1, 1, 1) ", "drop(#)", 1);
        E.numbers("no such SIGN of sixty", Edges.SIXTY_SIGNS.replace("drop(1) ", ""), "drop(#)", 60);
        E.still("there is none", TWO, "drop(0)=UNKNOWN drop(-1)=UNKNOWN drop(NONE)=UNKNOWN drop(MIN)=UNKNOWN drop(MAX)=UNKNOWN");
    }

    private static void promise11State() {
        E.still("it does not count", Edges.SOME, "drop(1)=STATE");
        E.still("it does not count, and there are sixty", Edges.SIXTY_SIGNS + "drop(59) ", "drop(59)=STATE drop(1)=STATE");
    }

    private static void promise12None() {
        E.still("it has no SIGN", TWO, "speed(0)=NONE speed(1)=NONE");
        E.still("only another one has", TWO + "sign(1, 5, 6, 1) ", "speed(0)=NONE speed(1)=5");
        E.still("it has none that counts", TWO + "sign(0, 5, 6, 1) sign(0, 1, 9, 1) drop(0) drop(1) ", "speed(0)=NONE");
    }

    private static void promise12LeastAndGreatestSpeed() {
        E.still("speed 1", TWO + "sign(0, 1, 1, 1) ", "speed(0)=1");
        E.still("speed 30000", TWO + "sign(0, 30000, 30000, 1) ", "speed(0)=30000");
        E.still("both ends", TWO + "sign(0, 30000, 30000, 1) sign(0, 1, 1, 1) ", "speed(0)=1");
        E.still("both ends, one heavier", TWO + "sign(0, 30000, 30000, 2) sign(0, 1, 1, 1) ", "speed(0)=30000");
    }

    private static void promise12TheLeastThatWeighsMost() {
        E.still("of like ones the least", TWO + "sign(0, 9, 9, 5) sign(0, 7, 7, 5) sign(0, 8, 8, 5) ", "speed(0)=7");
        E.still("together they weigh more than one", TWO + "sign(0, 5, 9, 8) sign(0, 20, 30, 5) sign(0, 30, 40, 4) ", "speed(0)=30");
        E.still("one speed short of meeting", TWO + "sign(0, 5, 9, 8) sign(0, 20, 30, 5) sign(0, 31, 40, 4) ", "speed(0)=5");
        E.still("as much as together", TWO + "sign(0, 5, 9, 9) sign(0, 20, 30, 5) sign(0, 30, 40, 4) ", "speed(0)=5");
        E.still("not the least SIGN, if it weighs less", TWO + "sign(0, 1, 30000, 1) sign(0, 400, 500, 1) ", "speed(0)=400");
    }

    private static void promise12Unknown() {
        E.numbers("no such SIDE", Edges.SOME, "speed(#)", Edges.SIDES_OF_SOME);
        E.numbers("no such SIDE of sixteen", Edges.SIXTEEN_SIDES, "speed(#)", 16);
    }

    private static void promise13None() {
        E.still("it has no SIGN", TWO, "span(0)=NONE span(1)=NONE");
        E.still("only another one has", TWO + "sign(1, 5, 6, 1) ", "span(0)=NONE span(1)=6");
        E.still("it has none that counts", TWO + "sign(0, 5, 6, 1) drop(0) ", "span(0)=NONE");
    }

    private static void promise13OneSpeedAndAllSpeeds() {
        E.still("speed 1 alone", TWO + "sign(0, 1, 1, 1) ", "span(0)=1");
        E.still("speed 30000 alone", TWO + "sign(0, 30000, 30000, 1) ", "span(0)=30000");
        E.still("all speeds", TWO + "sign(0, 1, 30000, 9) ", "speed(0)=1 span(0)=30000");
        E.still("all speeds of sixty SIGNS one behind the other", TWO + allSpeeds(), "speed(0)=1 span(0)=30000");
    }

    private static String allSpeeds() {
        StringBuilder signs = new StringBuilder();
        for (int i = 59; i >= 0; i--) {
            signs.append("sign(0, ").append(500 * i + 1).append(", ").append(500 * i + 500).append(", 3) ");
        }
        return signs.toString();
    }

    private static void promise13OneBehindTheOther() {
        E.still("the next one begins just behind", TWO + "sign(0, 5, 9, 2) sign(0, 10, 20, 2) ", "speed(0)=5 span(0)=20");
        E.still("one speed is held by none", TWO + "sign(0, 5, 9, 2) sign(0, 11, 20, 2) ", "speed(0)=5 span(0)=9");
        E.still("what weighs as much later is not of it", TWO + "sign(0, 5, 9, 2) sign(0, 10, 10, 1) sign(0, 11, 20, 2) ", "span(0)=9");
    }

    private static void promise13AsMuch() {
        E.still("two take over from one", TWO + "sign(0, 5, 9, 3) sign(0, 10, 20, 1) sign(0, 10, 15, 2) ", "span(0)=15");
        E.still("one takes over from two", TWO + "sign(0, 5, 9, 1) sign(0, 5, 9, 2) sign(0, 10, 12, 3) ", "span(0)=12");
        E.still("it ends where they weigh less", TWO + "sign(0, 5, 9, 3) sign(0, 10, 20, 2) ", "span(0)=9");
        E.still("it begins only where they weigh most", TWO + "sign(0, 5, 9, 3) sign(0, 10, 20, 4) ", "speed(0)=10 span(0)=20");
        E.still("one that goes on does not help", TWO + "sign(0, 5, 30000, 3) sign(0, 7, 8, 1) ", "speed(0)=7 span(0)=8");
        E.still("a dropped one does not help", TWO + "sign(0, 5, 9, 2) sign(0, 10, 20, 2) drop(1) ", "span(0)=9");
        E.still("another SIDE's does not help", TWO + "sign(0, 5, 9, 2) sign(1, 10, 20, 2) ", "span(0)=9 span(1)=20");
    }

    private static void promise13Unknown() {
        E.numbers("no such SIDE", Edges.SOME, "span(#)", Edges.SIDES_OF_SOME);
        E.numbers("no such SIDE of sixteen", Edges.SIXTEEN_SIDES, "span(#)", 16);
    }

    private static void promise14AtTheEnds() {
        E.still("low and high are held", TWO + "sign(0, 10, 20, 4) ",
                "weighs(0, 9)=0 weighs(0, 10)=4 weighs(0, 20)=4 weighs(0, 21)=0");
        E.still("speeds 1 and 30000", TWO + "sign(0, 1, 1, 4) sign(0, 30000, 30000, 5) ",
                "weighs(0, 1)=4 weighs(0, 2)=0 weighs(0, 29999)=0 weighs(0, 30000)=5");
    }

    private static void promise14LeastAndMost() {
        E.still("no SIGN", TWO, "weighs(0, 1)=0 weighs(1, 30000)=0");
        E.still("sixty SIGNS of WEIGHT 9", TWO + "sign(1, 7, 8, 9) ".repeat(60), "weighs(1, 7)=540 weighs(0, 7)=0 speed(1)=7 span(1)=8");
        E.still("those that count, of that SIDE", Edges.SOME, "weighs(0, 7500)=2 weighs(0, 7801)=0 weighs(1, 1)=9 weighs(0, 1)=0");
    }

    private static void promise14Unknown() {
        E.numbers("no such SIDE", Edges.SOME, "weighs(#, 1)", Edges.SIDES_OF_SOME);
        E.still("UNKNOWN is told ahead of BAD", Edges.SOME, "weighs(5, 0)=UNKNOWN weighs(-1, 30001)=UNKNOWN weighs(NONE, MIN)=UNKNOWN");
    }

    private static void promise14Bad() {
        E.bounds("speed 1 .. 30000", Edges.SOME, "weighs(0, #)", 1, 30000, "BAD");
        E.still("NONE is no speed", Edges.SOME, "weighs(0, NONE)=BAD weighs(2, NONE)=BAD");
    }

    private static void promise15NoSpeedIsHeldByBoth() {
        E.still("one speed is held by both", TWO + "sign(0, 10, 20, 1) sign(0, 20, 30, 1) ", "quarrels(0)=0");
        E.still("just none", TWO + "sign(0, 10, 20, 1) sign(0, 21, 30, 1) ", "quarrels(0)=1");
        E.still("just none, the later one below", TWO + "sign(0, 21, 30, 1) sign(0, 10, 20, 1) ", "quarrels(0)=1");
        E.still("one speed, the later one below", TWO + "sign(0, 20, 30, 1) sign(0, 10, 20, 1) ", "quarrels(0)=0");
        E.still("one within the other", TWO + "sign(0, 1, 30000, 1) sign(0, 15, 15, 1) ", "quarrels(0)=0");
        E.still("the same twice", TWO + "sign(0, 15, 15, 1) sign(0, 15, 15, 1) ", "quarrels(0)=0");
        E.still("both ends", TWO + "sign(0, 1, 1, 1) sign(0, 30000, 30000, 1) ", "quarrels(0)=1");
    }

    private static void promise15FewestAndMost() {
        E.still("no SIGN, one SIGN", TWO + "sign(1, 5, 5, 1) ", "quarrels(0)=0 quarrels(1)=0");
        StringBuilder apart = new StringBuilder(TWO);
        for (int i = 1; i <= 60; i++) apart.append("sign(0, ").append(i).append(", ").append(i).append(", 1) ");
        E.still("all pairs of sixty", apart.toString(), "quarrels(0)=1770 quarrels(1)=0");
    }

    private static void promise15OfThatSideThatCount() {
        E.still("two SIDES' SIGNS do not QUARREL", TWO + "sign(0, 5, 5, 1) sign(1, 6, 6, 1) ", "quarrels(0)=0 quarrels(1)=0");
        E.still("a dropped one does not", TWO + "sign(0, 5, 5, 1) sign(0, 6, 6, 1) sign(0, 7, 7, 1) drop(1) ", "quarrels(0)=1");
        E.still("dropped ones do not", TWO + "sign(0, 5, 5, 1) sign(0, 6, 6, 1) drop(0) drop(1) ", "quarrels(0)=0");
    }

    private static void promise15Unknown() {
        E.numbers("no such SIDE", Edges.SOME, "quarrels(#)", Edges.SIDES_OF_SOME);
        E.numbers("no such SIDE of sixteen", Edges.SIXTEEN_SIDES, "quarrels(#)", 16);
    }
}
