/** The boundary cases of 'Terms' part 4 (TEXTS) and of promises 22 to 27, one test for each sentence. */
public final class TextsEdgesTest {
    private static final Check T = new Check("edges of texts");
    private static final Edges E = new Edges(T);

    private static final String TWO = "side(1, 1, 1, 1) side(1, 1, 1, 1) ";

    public static void main(String[] args) {
        promise22NoneAtFirst();
        promise22TheSetThatItHad();
        promise22Unknown();
        promise22Bad();
        promise22Order();
        promise23NumbersUpToFull();
        promise23Unknown();
        promise23AnySongAnyHearer();
        promise23Bad();
        promise23Full();
        promise23Order();
        promise24None();
        promise24FromThatDayOn();
        promise24LatestDay();
        promise24LatestText();
        promise24ForThem();
        promise24Unknown();
        promise24Bad();
        promise25NoFamily();
        promise25EachFamily();
        promise25NoTextOrOneThatDoesNotLet();
        promise25Unknown();
        promise25Bad();
        promise26NoneAndAll();
        promise26Unknown();
        promise26Bad();
        promise27OneDayAndAllDays();
        promise27EmptySet();
        promise27FirstAndLastDay();
        promise27AllSidesOfTheSet();
        promise27Unknown();
        promise27Bad();
        promise27Order();
        T.end();
    }

    private static void promise22NoneAtFirst() {
        E.run("no FAMILIES at first", TWO + "sung(0, 1, 0)=0 sung(1, 255, 3)=0");
        E.run("so any may hear it", TWO + "may(0, 0, 0)=1 may(1, 5, 9999)=1");
    }

    private static void promise22TheSetThatItHad() {
        E.run("the set that it had, the least and the greatest", TWO + "sung(0, 255, 0)=0 sung(0, 0, 0)=255 sung(0, 128, 3)=0 "
                + "sung(0, 128, 3)=128 sung(1, 7, 0)=0 sung(0, 1, 0)=128");
        E.run("the sort of SONG is set too", TWO + "text(0, 3, NONE, 0, true) sung(0, 1, 3) may(0, 0, 0)=1 sung(0, 1, 2)=1 may(0, 0, 0)=0 "
                + "sung(0, 1, 3)=1 may(0, 0, 0)=1");
    }

    private static void promise22Unknown() {
        E.numbers("no such SIDE", Edges.SOME, "sung(#, 1, 0)", Edges.SIDES_OF_SOME);
        E.numbers("no such SIDE of sixteen", Edges.SIXTEEN_SIDES, "sung(#, 1, 0)", 16);
        E.numbers("SONGS 0 .. 3; NONE is none of them", Edges.SOME, "sung(0, 1, #)", 4);
    }

    private static void promise22Bad() {
        E.bounds("a set of bits 0 .. 7", Edges.SOME, "sung(0, #, 2)", 0, 255, "BAD");
        E.still("each bit above", Edges.SOME, "sung(0, 0x100, 2)=BAD sung(0, 0x200, 2)=BAD sung(0, 0x101, 2)=BAD sung(0, 0x10000, 2)=BAD "
                + "sung(0, 0x40000000, 2)=BAD sung(0, NONE, 2)=BAD");
    }

    private static void promise22Order() {
        E.still("UNKNOWN: side is told ahead of BAD", Edges.SOME, "sung(5, 256, 0)=UNKNOWN sung(-1, -1, 0)=UNKNOWN");
        E.still("UNKNOWN: song is told ahead of BAD", Edges.SOME, "sung(0, 256, 4)=UNKNOWN sung(0, -1, -1)=UNKNOWN sung(0, 256, NONE)=UNKNOWN");
        E.still("both UNKNOWN", Edges.SOME, "sung(5, 1, 4)=UNKNOWN sung(5, 256, 4)=UNKNOWN");
    }

    private static void promise23NumbersUpToFull() {
        StringBuilder sixty = new StringBuilder();
        for (int i = 0; i < 60; i++) sixty.append("text(").append(i % 8).append(", 0, 0, ").append(i).append(", true)=").append(i).append(' ');
        E.run("numbers 0 .. 59, then FULL", sixty + "text(0, 0, 0, 0, true)=FULL text(7, NONE, NONE, 9999, false)=FULL total(4)=60 "
                + "counts(3, 0, 0, 9999)=59 counts(4, 0, 0, 9999)=52");
        E.run("what is refused takes no number", "text(8, 0, 0, 0, true)=UNKNOWN text(0, 0, 0, 0, true)=0 text(0, 0, 0, -1, true)=BAD "
                + "text(0, 0, 0, 0, false)=1 total(4)=2");
    }

    private static void promise23Unknown() {
        E.numbers("FAMILIES 0 .. 7; NONE is none of them", Edges.SOME, "text(#, 0, 0, 0, true)", 8);
        E.bounds("SONGS 0 .. 3", Edges.SOME, "text(0, #, 0, 0, true)", 0, 3, "UNKNOWN");
        E.bounds("HEARERS 0 .. 5", Edges.SOME, "text(0, 0, #, 0, true)", 0, 5, "UNKNOWN");
        E.still("numbers about NONE", Edges.SOME, "text(0, -8, 0, 0, true)=UNKNOWN text(0, -10, 0, 0, true)=UNKNOWN "
                + "text(0, 0, -8, 0, true)=UNKNOWN text(0, 0, -10, 0, true)=UNKNOWN");
    }

    private static void promise23AnySongAnyHearer() {
        E.run("NONE: any SONG, from 0 to 3", "text(1, NONE, 2, 5, true)=0 counts(1, 0, 2, 5)=0 counts(1, 1, 2, 5)=0 "
                + "counts(1, 2, 2, 5)=0 counts(1, 3, 2, 5)=0 counts(1, 0, 1, 5)=NONE counts(0, 0, 2, 5)=NONE counts(2, 0, 2, 5)=NONE");
        E.run("NONE: any HEARER, from 0 to 5", "text(1, 2, NONE, 5, true)=0 counts(1, 2, 0, 5)=0 counts(1, 2, 1, 5)=0 counts(1, 2, 2, 5)=0 "
                + "counts(1, 2, 3, 5)=0 counts(1, 2, 4, 5)=0 counts(1, 2, 5, 5)=0 counts(1, 1, 0, 5)=NONE counts(1, 3, 0, 5)=NONE");
        E.run("NONE: both", "text(7, NONE, NONE, 5, true)=0 counts(7, 0, 0, 5)=0 counts(7, 3, 5, 5)=0 counts(6, 0, 0, 5)=NONE");
    }

    private static void promise23Bad() {
        E.bounds("DAY 0 .. 9999", Edges.SOME, "text(0, 0, 0, #, true)", 0, 9999, "BAD");
        E.still("NONE is no DAY", Edges.SOME, "text(0, 0, 0, NONE, true)=BAD text(0, 0, 0, NONE, false)=BAD");
    }

    private static void promise23Full() {
        E.still("FULL alone", Edges.SIXTY_TEXTS, "text(0, 0, 0, 0, true)=FULL text(7, 3, 5, 9999, false)=FULL text(0, NONE, NONE, 0, true)=FULL");
    }

    private static void promise23Order() {
        E.still("UNKNOWN is told ahead of BAD", Edges.SOME, "text(8, 0, 0, -1, true)=UNKNOWN text(0, 4, 0, 10000, true)=UNKNOWN "
                + "text(0, 0, 6, -1, true)=UNKNOWN text(NONE, 0, 0, -1, true)=UNKNOWN");
        E.still("UNKNOWN is told ahead of FULL", Edges.SIXTY_TEXTS, "text(8, 0, 0, 0, true)=UNKNOWN text(0, 4, 0, 0, true)=UNKNOWN "
                + "text(0, 0, 6, 0, true)=UNKNOWN");
        E.still("BAD is told ahead of FULL", Edges.SIXTY_TEXTS, "text(0, 0, 0, -1, true)=BAD text(0, 0, 0, 10000, true)=BAD");
        E.still("UNKNOWN is told ahead of both", Edges.SIXTY_TEXTS, "text(8, 0, 0, -1, true)=UNKNOWN text(0, -1, 0, 10000, true)=UNKNOWN");
    }

    private static void promise24None() {
        E.still("there are no TEXTS", "", "counts(0, 0, 0, 0)=NONE counts(7, 3, 5, 9999)=NONE");
        E.still("there is none for them", Edges.SOME, "counts(2, 0, 0, 9999)=NONE counts(7, 1, 5, 9999)=NONE counts(7, 2, 4, 9998)=NONE");
    }

    private static void promise24FromThatDayOn() {
        E.still("from a DAY on", "text(0, 0, 0, 50, true) ", "counts(0, 0, 0, 49)=NONE counts(0, 0, 0, 50)=0 counts(0, 0, 0, 51)=0 "
                + "counts(0, 0, 0, 0)=NONE counts(0, 0, 0, 9999)=0");
        E.still("from DAY 0 on", "text(0, 0, 0, 0, true) ", "counts(0, 0, 0, 0)=0 counts(0, 0, 0, 9999)=0");
        E.still("from DAY 9999 on", "text(0, 0, 0, 9999, true) ", "counts(0, 0, 0, 9998)=NONE counts(0, 0, 0, 9999)=0");
    }

    private static void promise24LatestDay() {
        E.still("of the latest DAY, in whatever order they came", "text(0, 0, 0, 50, true) text(0, 0, 0, 10, true) text(0, 0, 0, 30, true) ",
                "counts(0, 0, 0, 9)=NONE counts(0, 0, 0, 10)=1 counts(0, 0, 0, 29)=1 counts(0, 0, 0, 30)=2 counts(0, 0, 0, 49)=2 "
                + "counts(0, 0, 0, 50)=0 counts(0, 0, 0, 9999)=0");
        E.still("one for any is later than one for them", "text(0, 1, 2, 10, true) text(0, NONE, NONE, 11, false) ",
                "counts(0, 1, 2, 10)=0 counts(0, 1, 2, 11)=1");
    }

    private static void promise24LatestText() {
        E.still("of like DAYS the latest TEXT", "text(0, 0, 0, 50, true) text(0, 0, 0, 50, true) text(0, 0, 0, 49, true) ",
                "counts(0, 0, 0, 50)=1 counts(0, 0, 0, 49)=2");
        E.still("whether it is for any or for them", "text(0, 0, 0, 50, true) text(0, NONE, NONE, 50, true) text(0, 0, 1, 50, true) ",
                "counts(0, 0, 0, 50)=1 counts(0, 0, 1, 50)=2 counts(0, 1, 1, 50)=1");
        E.still("whether it LETS or not", "text(0, 0, 0, 50, true) text(0, 0, 0, 50, false) ", "counts(0, 0, 0, 50)=1");
    }

    private static void promise24ForThem() {
        E.still("the same FAMILY, SONG and HEARER, the least and the greatest", "text(0, 0, 0, 5, true) text(7, 3, 5, 5, true) ",
                "counts(0, 0, 0, 5)=0 counts(7, 3, 5, 5)=1 counts(7, 0, 0, 5)=NONE counts(0, 3, 0, 5)=NONE counts(0, 0, 5, 5)=NONE "
                + "counts(0, 3, 5, 5)=NONE counts(7, 0, 5, 5)=NONE counts(7, 3, 0, 5)=NONE");
    }

    private static void promise24Unknown() {
        E.numbers("FAMILIES 0 .. 7", Edges.SOME, "counts(#, 0, 0, 0)", 8);
        E.numbers("SONGS 0 .. 3; NONE is none of them", Edges.SOME, "counts(0, #, 0, 0)", 4);
        E.numbers("HEARERS 0 .. 5; NONE is none of them", Edges.SOME, "counts(0, 0, #, 0)", 6);
        E.still("UNKNOWN is told ahead of BAD", Edges.SOME, "counts(8, 0, 0, -1)=UNKNOWN counts(0, 4, 0, 10000)=UNKNOWN "
                + "counts(0, 0, 6, -1)=UNKNOWN counts(0, NONE, 0, -1)=UNKNOWN counts(0, 0, NONE, 10000)=UNKNOWN");
    }

    private static void promise24Bad() {
        E.bounds("DAY 0 .. 9999", Edges.SOME, "counts(0, 0, 0, #)", 0, 9999, "BAD");
    }

    private static void promise25NoFamily() {
        E.still("any may, if it has none", TWO + "text(0, NONE, NONE, 0, false) ", "may(0, 0, 0)=1 may(1, 5, 9999)=1");
        E.still("and if it has none any more", TWO + "sung(0, 255, 3) sung(0, 0, 3) ", "may(0, 0, 0)=1");
    }

    private static void promise25EachFamily() {
        StringBuilder seven = new StringBuilder(TWO + "sung(0, 255, 2) ");
        for (int f = 0; f < 7; f++) seven.append("text(").append(f).append(", 2, 4, 10, true) ");
        E.still("seven of eight are too few", seven.toString(), "may(0, 4, 10)=0 may(0, 4, 9999)=0");
        E.still("all eight", seven + "text(7, 2, 4, 11, true) ", "may(0, 4, 10)=0 may(0, 4, 11)=1 may(0, 4, 9999)=1 may(0, 3, 11)=0");
        E.still("one takes it back", seven + "text(7, 2, 4, 11, true) text(0, 2, 4, 12, false) ", "may(0, 4, 11)=1 may(0, 4, 12)=0");
        E.still("a FAMILY that is not of it does not matter", TWO + "sung(0, 2, 0) text(1, 0, 0, 0, true) text(0, 0, 0, 0, false) "
                + "text(2, 0, 0, 0, false) ", "may(0, 0, 0)=1");
    }

    private static void promise25NoTextOrOneThatDoesNotLet() {
        E.still("if there is none, it is not LET", TWO + "sung(0, 1, 0) ", "may(0, 0, 0)=0 may(0, 5, 9999)=0 may(1, 0, 0)=1");
        E.still("one that does not", TWO + "sung(0, 1, 0) text(0, 0, 0, 0, false) ", "may(0, 0, 0)=0 may(0, 0, 9999)=0");
        E.still("on the DAY, not on the one ahead", TWO + "sung(0, 1, 0) text(0, 0, 0, 9999, true) ", "may(0, 0, 9998)=0 may(0, 0, 9999)=1");
        E.still("of like DAYS the latest TEXT", TWO + "sung(0, 1, 0) text(0, 0, 0, 5, false) text(0, NONE, 0, 5, true) ", "may(0, 0, 4)=0 may(0, 0, 5)=1");
    }

    private static void promise25Unknown() {
        E.numbers("no such SIDE", Edges.SOME, "may(#, 0, 0)", Edges.SIDES_OF_SOME);
        E.numbers("no such SIDE of sixteen", Edges.SIXTEEN_SIDES, "may(#, 0, 0)", 16);
        E.numbers("HEARERS 0 .. 5; NONE is none of them", Edges.SOME, "may(0, #, 0)", 6);
        E.still("UNKNOWN is told ahead of BAD", Edges.SOME, "may(5, 0, -1)=UNKNOWN may(0, 6, 10000)=UNKNOWN may(NONE, 0, -1)=UNKNOWN "
                + "may(0, NONE, -1)=UNKNOWN may(5, 6, -1)=UNKNOWN");
    }

    private static void promise25Bad() {
        E.bounds("DAY 0 .. 9999", Edges.SOME, "may(0, 0, #)", 0, 9999, "BAD");
        E.bounds("DAY 0 .. 9999, though any may", Edges.SOME, "may(2, 0, #)", 0, 9999, "BAD");
    }

    private static void promise26NoneAndAll() {
        E.still("no SIDES", "", "heard(0, 0)=0 heard(5, 9999)=0");
        E.still("all sixteen", Edges.SIXTEEN_SIDES, "heard(0, 0)=65535 heard(5, 9999)=65535");
        E.still("none of some", TWO + "sung(0, 1, 0) sung(1, 128, 3) ", "heard(0, 0)=0 heard(5, 9999)=0");
        E.still("the first, the last", Edges.SIXTEEN_SIDES + "sung(0, 1, 0) sung(15, 2, 0) text(0, 0, 0, 5, true) text(1, 0, 0, 7, true) ",
                "heard(0, 4)=0x7ffe heard(0, 5)=0x7fff heard(0, 6)=0x7fff heard(0, 7)=0xffff heard(1, 7)=0x7ffe");
        E.still("some", Edges.SOME, "heard(5, 0)=28 heard(5, 5)=30 heard(5, 20)=31 heard(5, 9998)=31 heard(5, 9999)=29 heard(0, 20)=29");
    }

    private static void promise26Unknown() {
        E.numbers("HEARERS 0 .. 5; NONE is none of them", Edges.SOME, "heard(#, 0)", 6);
        E.still("UNKNOWN is told ahead of BAD", Edges.SOME, "heard(6, -1)=UNKNOWN heard(-1, 10000)=UNKNOWN heard(NONE, MIN)=UNKNOWN");
    }

    private static void promise26Bad() {
        E.bounds("DAY 0 .. 9999", Edges.SOME, "heard(0, #)", 0, 9999, "BAD");
        E.bounds("DAY 0 .. 9999, without SIDES too", "", "heard(0, #)", 0, 9999, "BAD");
    }

    private static void promise27OneDayAndAllDays() {
        E.still("one day", TWO, "days(1, 0, 0, 0)=1 days(3, 5, 9999, 9999)=1 days(1, 0, 77, 77)=1");
        E.still("two days", TWO, "days(1, 0, 0, 1)=2 days(1, 0, 9998, 9999)=2");
        E.still("all days", TWO, "days(3, 0, 0, 9999)=10000");
        E.still("no day", TWO + "sung(0, 1, 0) ", "days(1, 0, 0, 9999)=0 days(3, 0, 0, 9999)=0 days(1, 0, 5, 5)=0");
    }

    private static void promise27EmptySet() {
        E.still("the empty set", Edges.SOME, "days(0, 0, 0, 9999)=10000 days(0, 5, 3, 3)=1");
        E.still("the empty set, and no SIDES", "", "days(0, 0, 0, 9999)=10000");
    }

    private static void promise27FirstAndLastDay() {
        String lets = TWO + "sung(0, 1, 0) text(0, 0, 0, 10, true) text(0, 0, 0, 20, false) ";
        E.still("from and to both count", lets, "days(1, 0, 10, 19)=10 days(1, 0, 9, 20)=10 days(1, 0, 11, 19)=9 days(1, 0, 10, 18)=9 "
                + "days(1, 0, 10, 10)=1 days(1, 0, 19, 19)=1 days(1, 0, 9, 9)=0 days(1, 0, 20, 20)=0");
        E.still("a TEXT from the last day on", lets, "days(1, 0, 0, 10)=1 days(1, 0, 0, 9)=0 days(1, 0, 15, 20)=5 days(1, 0, 20, 9999)=0");
        E.still("DAYS 0 and 9999", TWO + "sung(0, 1, 0) text(0, 0, 0, 0, true) text(0, 0, 0, 9999, false) ",
                "days(1, 0, 0, 9999)=9999 days(1, 0, 9999, 9999)=0 days(1, 0, 0, 0)=1 days(1, 0, 9998, 9999)=1");
        E.still("several TEXTS of one DAY", TWO + "sung(0, 1, 0) text(0, 0, 0, 5, true) text(0, 0, 0, 5, false) text(0, 0, 0, 8, false) "
                + "text(0, 0, 0, 8, true) ", "days(1, 0, 0, 9)=2 days(1, 0, 5, 7)=0 days(1, 0, 8, 8)=1");
    }

    private static void promise27AllSidesOfTheSet() {
        String two = TWO + "sung(0, 1, 0) sung(1, 2, 3) text(0, 0, NONE, 10, true) text(1, 3, NONE, 20, true) text(0, 0, NONE, 30, false) ";
        E.still("all of them on the same day", two, "days(1, 0, 0, 99)=20 days(2, 0, 0, 99)=80 days(3, 0, 0, 99)=10 days(3, 5, 19, 30)=10");
        E.still("the last SIDE of sixteen", Edges.SIXTEEN_SIDES + "sung(15, 128, 3) text(7, 3, 5, 9990, true) ",
                "days(0x8000, 5, 0, 9999)=10 days(0xffff, 5, 0, 9999)=10 days(0x7fff, 5, 0, 9999)=10000 days(0x8000, 4, 0, 9999)=0");
    }

    private static void promise27Unknown() {
        E.sets("a bit that is no SIDE", Edges.SOME, "days(#, 0, 0, 0)", Edges.SIDES_OF_SOME);
        E.sets("a bit that is none of sixteen", Edges.SIXTEEN_SIDES, "days(#, 0, 0, 0)", 16);
        E.sets("a bit that is no SIDE, without SIDES", "", "days(#, 0, 0, 0)", 0);
        E.numbers("HEARERS 0 .. 5; NONE is none of them", Edges.SOME, "days(1, #, 0, 0)", 6);
    }

    private static void promise27Bad() {
        E.bounds("from 0 .. 9999", Edges.SOME, "days(1, 0, #, 9999)", 0, 9999, "BAD");
        E.bounds("to 0 .. 9999", Edges.SOME, "days(1, 0, 0, #)", 0, 9999, "BAD");
        E.still("to is below from", Edges.SOME, "days(1, 0, 5, 4)=BAD days(1, 0, 9999, 0)=BAD days(1, 0, 1, 0)=BAD days(0, 0, 5, 4)=BAD "
                + "days(1, 0, 9999, 9998)=BAD");
        E.still("both are no days", Edges.SOME, "days(1, 0, -1, -1)=BAD days(1, 0, 10000, 10000)=BAD days(1, 0, MIN, MAX)=BAD days(1, 0, -5, -4)=BAD");
    }

    private static void promise27Order() {
        E.still("UNKNOWN: set is told ahead of BAD", Edges.SOME, "days(32, 0, -1, 0)=UNKNOWN days(-1, 0, 5, 4)=UNKNOWN days(MIN, 0, 0, 10000)=UNKNOWN");
        E.still("UNKNOWN: hearer is told ahead of BAD", Edges.SOME, "days(1, 6, -1, 0)=UNKNOWN days(1, NONE, 5, 4)=UNKNOWN days(0, -1, 0, 10000)=UNKNOWN");
        E.still("both UNKNOWN", Edges.SOME, "days(32, 6, 0, 0)=UNKNOWN days(32, 6, 5, 4)=UNKNOWN");
    }
}
