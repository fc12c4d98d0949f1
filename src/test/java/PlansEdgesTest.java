/** The boundary cases of 'Terms' part 1 (PLANS) and of promises 7 to 9, one test for each sentence. */
public final class PlansEdgesTest {
    private static final Check T = new Check("edges of plans");
    private static final Edges E = new Edges(T);

    private static final String SIX = "side(1000, 100, 0, 0) ".repeat(6);
    private static final String SEVEN = SIX + "side(1000, 100, 0, 0) ";

    public static void main(String[] args) {
        termsSixSidesAtMost();
        termsOneToThreeYears();
        termsHoursInEachYear();
        termsReadOnceOrNotAtAll();
        termsSoundInThatYear();
        termsLikeOnesByOption();
        termsLikeOnesSideBySide();
        promise7EmptySet();
        promise7Anew();
        promise7Unknown();
        promise7Bad();
        promise7Order();
        promise7GreatestSum();
        promise8EachAnswer();
        promise8NotOfTheSet();
        promise8Unknown();
        promise8Bad();
        promise8Order();
        promise9LeastHours();
        promise9EachNumberOfHours();
        promise9NoneAboveMostHours();
        promise9NoneAboveMostSaved();
        promise9EmptySet();
        promise9Unknown();
        promise9Bad();
        promise9Order();
        T.end();
    }

    private static void termsSixSidesAtMost() {
        E.still("six are taken", SEVEN, "best(0x3f, 1, 60)=600000 best(0x7e, 1, 60)=600000 does(0x7e, 1, 60, 6)=0 "
                + "needed(0x7e, 1, 600000)=30");
        E.still("seven are not", SEVEN, "best(0x7f, 1, 60)=BAD does(0x7f, 1, 60, 0)=BAD needed(0x7f, 1, 0)=BAD");
        E.still("any six of sixteen", Edges.SIXTEEN_SIDES, "best(0xfc00, 1, 60)=2700 does(0xfc00, 1, 30, 15)=1 "
                + "best(0xfe00, 1, 60)=BAD best(0xffff, 1, 60)=BAD does(0xffff, 1, 60, 0)=BAD needed(0xffff, 1, 0)=BAD");
    }

    private static void termsOneToThreeYears() {
        String three = "side(10, 10, 0, 0) ".repeat(4) + "hours(0, 5, 5) hours(1, 5, 5) hours(2, 5, 5) hours(3, 5, 5) ";
        E.still("as many years as are told, and no more", three,
                "best(15, 1, 5)=100 best(15, 2, 5)=200 best(15, 3, 5)=300 does(15, 1, 5, 1)=NONE does(15, 2, 5, 1)=2 "
                + "does(15, 2, 5, 2)=NONE does(15, 3, 5, 2)=4 does(15, 3, 5, 3)=NONE");
        E.still("from THE YEAR on, the last one too", Edges.YEAR_1000, "best(1, 3, 10)=450 does(1, 3, 10, 0)=0");
    }

    private static void termsHoursInEachYear() {
        String two = "side(10, 10, 0, 0) side(10, 10, 0, 0) hours(0, 7, 9) hours(1, 4, 9) ";
        E.still("no more than there are", two, "best(3, 1, 11)=200 best(3, 1, 10)=100 does(3, 1, 10, 0)=0 "
                + "does(3, 1, 10, 1)=NONE best(1, 1, 7)=100 best(1, 1, 6)=0 best(2, 1, 4)=100 best(2, 1, 3)=0");
        E.still("hours of one year do not help in another", two, "best(3, 2, 7)=200 best(3, 2, 6)=100 best(3, 3, 3)=0 "
                + "does(3, 2, 6, 0)=NONE does(3, 2, 6, 1)=0");
        E.still("no hours", two, "best(3, 3, 0)=0 does(3, 3, 0, 0)=NONE does(3, 3, 0, 1)=NONE needed(3, 3, 0)=0");
        String four = "side(1, 100, 0, 0) ".repeat(4) + "hours(0, 1000, 1000) hours(1, 1000, 1000) hours(2, 1000, 1000) ";
        E.still("most hours", four + "hours(3, 1, 1) ", "best(7, 1, 3000)=300 best(7, 1, 2999)=200 best(15, 1, 3000)=300 "
                + "best(15, 2, 3000)=400 does(15, 2, 3000, 2)=0 does(15, 2, 3000, 3)=2");
    }

    private static void termsReadOnceOrNotAtAll() {
        E.still("a SIDE is saved once, though there are hours for more", "side(10, 50, 5, 0) ",
                "best(1, 3, 3000)=500 best(1, 1, 3000)=500");
        E.still("by LIGHT or by NEEDLE", "side(10, 50, 5, 0) hours(0, 9, 8) ",
                "best(1, 1, 9)=500 best(1, 1, 8)=450 best(1, 1, 7)=0");
        E.still("one by LIGHT and one by NEEDLE in one year", "side(10, 50, 20, 0) side(10, 50, 1, 0) ",
                "best(3, 1, 20)=1000 best(3, 1, 19)=990 best(3, 1, 15)=990 best(3, 1, 14)=790 does(3, 1, 15, 0)=0 does(3, 1, 15, 1)=1");
    }

    private static void termsSoundInThatYear() {
        String rots = "side(1, 100, 0, 0) side(10, 50, 7, 20) hours(0, 1, 1) hours(1, 1, 1) ";
        E.still("ROT of 0, 1, 2 years", rots + "side(1000, 100, 0, 100) hours(2, 1, 1) side(1000, 100, 0, 90) hours(3, 1, 1) ",
                "best(14, 3, 1)=110100 does(14, 3, 1, 2)=0 does(14, 3, 1, 3)=2 does(14, 3, 1, 1)=4 best(10, 2, 1)=100300");
        E.still("ROT goes down to 0 and not below", "side(1000, 100, 0, 100) side(10, 9, 0, 5) hours(0, 1, 1) hours(1, 1, 1) "
                + "side(1000, 100, 0, 100) hours(2, 1, 1) ", "best(7, 3, 1)=100040 best(3, 3, 1)=100040");
        E.still("WEAR goes down to 0 and not below", "side(10, 7, 8, 0) side(10, 7, 7, 0) side(10, 7, 6, 0) ",
                "best(1, 1, 5)=0 best(2, 1, 5)=0 best(4, 1, 5)=10 does(1, 1, 5, 0)=1");
        E.still("WEAR and ROT together not below 0", "side(1000, 100, 0, 100) side(10, 30, 11, 20) hours(0, 5, 5) ",
                "best(3, 2, 5)=100000 does(3, 2, 5, 1)=3 does(3, 2, 5, 0)=0");
        E.still("WEAR once, whatever was played ahead", "side(10, 50, 5, 0) read(0, true) read(0, true) ",
                "best(1, 1, 5)=350 best(1, 1, 10)=400");
        E.still("by LIGHT no WEAR", "side(10, 50, 50, 0) ", "best(1, 1, 10)=500 best(1, 1, 9)=0");
    }

    /** A SIDE that is worth nothing saves 0 by each option, so that only the order of the options tells. */
    private static void termsLikeOnesByOption() {
        String first = "side(0, 50, 5, 5) ";
        E.still("LIGHT in the first year goes first", first + "hours(0, 5, 5) ", "does(1, 3, 5, 0)=0 does(1, 3, 3000, 0)=0");
        E.still("then NEEDLE in the first year", first + "hours(0, 6, 5) ", "does(1, 3, 5, 0)=1 does(1, 3, 6, 0)=0");
        // SIDES 0 and 1 fill the first and the second year: 0 rots away at once, 1 does not rot
        String filled = "side(10, 100, 0, 100) side(10, 100, 0, 0) side(0, 50, 5, 5) hours(0, 5, 5) hours(1, 5, 5) ";
        E.still("then LIGHT in the second year", filled + "hours(2, 5, 5) ", "does(5, 3, 5, 2)=2 does(5, 2, 5, 2)=2");
        E.still("then NEEDLE in the second year", filled + "hours(2, 6, 5) ", "does(5, 3, 5, 2)=3 does(5, 2, 5, 2)=3");
        E.still("then LIGHT in the third year", filled + "hours(2, 5, 5) ", "does(7, 3, 5, 2)=4 does(7, 2, 5, 2)=NONE");
        E.still("then NEEDLE in the third year", filled + "hours(2, 6, 5) ", "does(7, 3, 5, 2)=5 does(7, 2, 5, 2)=NONE");
        E.still("then not at all", filled + "hours(2, 6, 6) ", "does(7, 3, 5, 2)=NONE does(5, 3, 5, 2)=NONE");
        E.still("NEEDLE in the first year goes before LIGHT in the second", "side(10, 50, 0, 0) hours(0, 6, 5) "
                + "side(10, 50, 0, 50) hours(1, 1, 1) ", "does(3, 2, 6, 0)=1 does(3, 2, 6, 1)=0 does(1, 2, 6, 0)=0");
    }

    private static void termsLikeOnesSideBySide() {
        String like = "side(10, 10, 0, 0) side(10, 10, 0, 0) side(10, 10, 0, 0) hours(0, 5, 5) hours(1, 5, 5) hours(2, 5, 5) ";
        E.still("the SIDE with the least number has the first option", like, "does(7, 3, 5, 0)=0 does(7, 3, 5, 1)=2 "
                + "does(7, 3, 5, 2)=4 does(6, 3, 5, 1)=0 does(6, 3, 5, 2)=2 does(7, 1, 5, 0)=0 does(7, 1, 5, 1)=NONE");
        E.still("even if all behind it come later for that", "side(10, 10, 0, 0) side(10, 10, 0, 0) side(10, 10, 0, 0) "
                + "hours(0, 10, 5) hours(1, 5, 5) hours(2, 5, 5) ",
                "best(7, 2, 10)=300 does(7, 2, 10, 0)=0 does(7, 2, 10, 1)=2 does(7, 2, 10, 2)=2");
        E.still("but most is saved first", like.replace("side(10, 10, 0, 0) hours", "side(11, 10, 0, 0) hours"),
                "best(7, 1, 5)=110 does(7, 1, 5, 0)=NONE does(7, 1, 5, 1)=NONE does(7, 1, 5, 2)=0");
    }

    private static void promise7EmptySet() {
        E.still("the empty set", "", "best(0, 1, 0)=0 best(0, 3, 3000)=0");
        E.still("the empty set", Edges.SOME, "best(0, 1, 0)=0 best(0, 3, 3000)=0 best(0, 4, 0)=BAD best(0, 1, 3001)=BAD");
    }

    private static void promise7Anew() {
        E.run("each PLAN is made anew", SEVEN + "best(0x3f, 3, 5)=300000 best(1, 1, 10)=100000 best(0, 1, 10)=0 best(0x7e, 1, 60)=600000 "
                + "does(0x41, 1, 5, 6)=NONE does(0x40, 1, 5, 6)=1 needed(0x41, 1, 200000)=10 needed(1, 1, 100000)=5 best(3, 2, 5)=200000");
    }

    private static void promise7Unknown() {
        E.sets("a bit that is no SIDE", "", "best(#, 1, 1)", 0);
        E.sets("a bit that is no SIDE", Edges.SOME, "best(#, 1, 1)", Edges.SIDES_OF_SOME);
        E.sets("a bit that is none of sixteen", Edges.SIXTEEN_SIDES, "best(#, 1, 1)", 16);
        E.still("the last bit that is one", Edges.SIXTEEN_SIDES, "best(0x8000, 1, 10)=450");
    }

    private static void promise7Bad() {
        E.bounds("years 1 .. 3", Edges.SOME, "best(7, #, 20)", 1, 3, "BAD");
        E.bounds("hours 0 .. 3000", Edges.SOME, "best(7, 1, #)", 0, 3000, "BAD");
        E.still("more than 6 SIDES", SEVEN, "best(0x7f, 1, 0)=BAD best(0x7f, 3, 3000)=BAD");
    }

    private static void promise7Order() {
        E.still("UNKNOWN is told ahead of each BAD", SEVEN,
                "best(0xff, 1, 1)=UNKNOWN best(0x80, 0, 1)=UNKNOWN best(0x80, 1, 3001)=UNKNOWN best(0xff, 4, -1)=UNKNOWN");
    }

    private static void promise7GreatestSum() {
        E.still("all that six can save", SIX, "best(0x3f, 1, 30)=600000 best(0x3f, 3, 3000)=600000 best(0x3f, 1, 29)=500000");
    }

    private static void promise8EachAnswer() {
        String filled = "side(10, 100, 0, 100) side(10, 100, 0, 50) side(10, 90, 1, 0) hours(0, 5, 5) hours(1, 5, 5) ";
        E.still("twice the year: 0, 2, 4", filled + "hours(2, 5, 5) ",
                "does(7, 3, 5, 0)=0 does(7, 3, 5, 1)=2 does(7, 3, 5, 2)=4");
        E.still("and 1 by NEEDLE: 1, 3, 5", filled + "hours(0, 6, 5) hours(1, 6, 5) hours(2, 6, 5) ",
                "does(7, 3, 5, 0)=1 does(7, 3, 5, 1)=3 does(7, 3, 5, 2)=5");
        E.still("NONE: not at all", filled + "hours(2, 6, 6) ", "does(7, 3, 5, 2)=NONE");
    }

    private static void promise8NotOfTheSet() {
        E.still("NONE: it is not of the set", Edges.SIXTEEN_SIDES, "does(1, 1, 10, 1)=NONE does(1, 1, 10, 15)=NONE "
                + "does(0x8000, 1, 10, 0)=NONE does(0x8000, 1, 10, 14)=NONE does(0x8000, 1, 10, 15)=0");
        E.still("NONE: the empty set", Edges.SOME, "does(0, 1, 0, 0)=NONE does(0, 3, 3000, 4)=NONE");
    }

    private static void promise8Unknown() {
        E.sets("a bit that is no SIDE", Edges.SOME, "does(#, 1, 1, 0)", Edges.SIDES_OF_SOME);
        E.sets("a bit that is none of sixteen", Edges.SIXTEEN_SIDES, "does(#, 1, 1, 0)", 16);
        E.numbers("no such SIDE", Edges.SOME, "does(7, 1, 20, #)", Edges.SIDES_OF_SOME);
        E.numbers("no such SIDE, and the empty set", Edges.SOME, "does(0, 1, 0, #)", Edges.SIDES_OF_SOME);
        E.numbers("no such SIDE of sixteen", Edges.SIXTEEN_SIDES, "does(1, 1, 20, #)", 16);
    }

    private static void promise8Bad() {
        E.bounds("years 1 .. 3", Edges.SOME, "does(7, #, 20, 0)", 1, 3, "BAD");
        E.bounds("hours 0 .. 3000", Edges.SOME, "does(7, 1, #, 0)", 0, 3000, "BAD");
        E.still("more than 6 SIDES", SEVEN, "does(0x7f, 1, 0, 0)=BAD");
    }

    private static void promise8Order() {
        E.still("UNKNOWN: set is told ahead of BAD", SEVEN, "does(0xff, 1, 1, 0)=UNKNOWN does(0x80, 0, 1, 0)=UNKNOWN "
                + "does(0x80, 1, 3001, 0)=UNKNOWN does(0x80, 0, -1, 7)=UNKNOWN");
        E.still("BAD is told ahead of UNKNOWN: side", SEVEN, "does(0x7f, 1, 1, 7)=BAD does(1, 0, 1, 7)=BAD "
                + "does(1, 4, 1, -1)=BAD does(1, 1, 3001, NONE)=BAD does(1, 1, -1, MAX)=BAD");
        E.still("both UNKNOWN", SEVEN, "does(0x80, 1, 1, 7)=UNKNOWN");
    }

    private static void promise9LeastHours() {
        String one = "side(10, 50, 5, 0) hours(0, 9, 8) ";
        E.still("just so much, and one more", one, "needed(1, 1, 0)=0 needed(1, 1, 1)=8 needed(1, 1, 450)=8 "
                + "needed(1, 1, 451)=9 needed(1, 1, 500)=9 needed(1, 1, 501)=NONE");
        E.still("the least hours that there may be", "side(1, 1, 0, 0) hours(0, 1, 1) ", "needed(1, 1, 1)=1 needed(1, 1, 0)=0");
        E.still("hours in each year", "side(1, 1, 0, 0) ".repeat(6), "needed(0x3f, 1, 6)=30 needed(0x3f, 2, 6)=15 "
                + "needed(0x3f, 3, 6)=10");
        E.still("what saves nothing needs nothing", "side(0, 100, 0, 0) side(10, 0, 0, 0) ", "needed(3, 1, 0)=0 needed(3, 3, 1)=NONE");
    }

    private static void promise9EachNumberOfHours() {
        for (int hours = 1; hours <= 3000; hours++) {
            WaxVoices x = new WaxVoices();
            // as many SIDES of 1000 hours as fit, and one for the rest
            for (int left = hours; left > 0; left -= 1000) {
                int side = x.side(1, 1, 0, 0);
                x.hours(side, Math.min(left, 1000), Math.min(left, 1000));
            }
            int sides = x.total(0);
            T.due("the least hours, of all that there may be", x.needed((1 << sides) - 1, 1, sides), hours);
        }
    }

    private static void promise9NoneAboveMostHours() {
        String four = "side(1, 100, 0, 0) ".repeat(4) + "hours(0, 1000, 1000) hours(1, 1000, 1000) hours(2, 1000, 1000) ";
        E.still("3000 hours", four, "needed(7, 1, 300)=3000 needed(7, 1, 201)=3000 needed(7, 1, 200)=2000");
        E.still("3001 hours are NONE", four + "hours(3, 1, 1) ", "needed(15, 1, 400)=NONE needed(15, 1, 301)=NONE "
                + "needed(15, 1, 300)=2001 needed(15, 2, 400)=2000");
        E.still("2999 hours", four + "hours(2, 999, 1000) ", "needed(7, 1, 300)=2999");
    }

    private static void promise9NoneAboveMostSaved() {
        E.still("all that six can save", SIX, "needed(0x3f, 1, 600000)=30 needed(0x1f, 1, 500000)=25 "
                + "needed(0x1f, 1, 500001)=NONE needed(0x3f, 3, 500001)=10");
    }

    private static void promise9EmptySet() {
        E.still("the empty set", "", "needed(0, 1, 0)=0 needed(0, 3, 0)=0 needed(0, 1, 1)=NONE needed(0, 3, 600000)=NONE");
    }

    private static void promise9Unknown() {
        E.sets("a bit that is no SIDE", Edges.SOME, "needed(#, 1, 1)", Edges.SIDES_OF_SOME);
        E.sets("a bit that is none of sixteen", Edges.SIXTEEN_SIDES, "needed(#, 1, 1)", 16);
    }

    private static void promise9Bad() {
        E.bounds("years 1 .. 3", Edges.SOME, "needed(7, #, 20)", 1, 3, "BAD");
        E.bounds("saves 0 .. 600000", Edges.SOME, "needed(7, 1, #)", 0, 600000, "BAD");
        E.still("more than 6 SIDES", SEVEN, "needed(0x7f, 1, 0)=BAD needed(0x7f, 3, 600000)=BAD");
        E.still("what is saved may be more than any hours", SIX, "needed(0x3f, 1, 3001)=5 needed(0x3f, 1, 600001)=BAD");
    }

    private static void promise9Order() {
        E.still("UNKNOWN is told ahead of each BAD", SEVEN, "needed(0xff, 1, 1)=UNKNOWN needed(0x80, 0, 1)=UNKNOWN "
                + "needed(0x80, 1, 600001)=UNKNOWN needed(0xff, 4, -1)=UNKNOWN");
    }
}
