/** The boundary cases of 'Terms' part 4 (COPIES) and of promises 28 to 31, one test for each sentence. */
public final class CopiesEdgesTest {
    private static final Check T = new Check("edges of copies");
    private static final Edges E = new Edges(T);

    private static final String FOUR = "side(1, 50, 10, 0) ".repeat(4);

    public static void main(String[] args) {
        promise28OfNoneAtFirst();
        promise28OfWhichItWas();
        promise28Unknown();
        promise28StateItself();
        promise28StateThroughOthers();
        promise28NoStateWithoutCircle();
        promise28Order();
        promise29ItItself();
        promise29ThroughOthers();
        promise29Unknown();
        promise30ItItself();
        promise30MostSound();
        promise30FewestBetween();
        promise30TheLeast();
        promise30Unknown();
        promise31AtFirstAndFull();
        promise31SignsThatCount();
        promise31HowSoundAllAre();
        promise31Bad();
        T.end();
    }

    /** Each of the sixteen but the last is a COPY of the next one. */
    private static String chainOfSixteen() {
        StringBuilder chain = new StringBuilder(Edges.SIXTEEN_SIDES);
        for (int i = 0; i < 15; i++) chain.append("copy(").append(i).append(", ").append(i + 1).append(") ");
        return chain.toString();
    }

    private static void promise28OfNoneAtFirst() {
        E.run("of none at first", FOUR + "copy(0, NONE)=NONE copy(1, 0)=NONE copy(3, 0)=NONE");
    }

    private static void promise28OfWhichItWas() {
        E.run("of which it was", FOUR + "copy(1, 0)=NONE copy(1, 3)=0 copy(1, 3)=3 copy(1, NONE)=3 copy(1, NONE)=NONE copy(1, 2)=NONE");
        E.run("the least and the greatest number", Edges.SIXTEEN_SIDES + "copy(15, 0)=NONE copy(15, NONE)=0 copy(0, 15)=NONE "
                + "copy(0, 14)=15 told(0, 8)=14");
        E.run("several may be COPIES of one", FOUR + "copy(1, 0)=NONE copy(2, 0)=NONE copy(3, 0)=NONE copies(0)=15");
    }

    private static void promise28Unknown() {
        E.numbers("SIDE a", Edges.SOME, "copy(#, NONE)", Edges.SIDES_OF_SOME);
        E.numbers("SIDE a of sixteen", Edges.SIXTEEN_SIDES, "copy(#, NONE)", 16);
        E.still("SIDE b", Edges.SOME, "copy(4, 5)=UNKNOWN copy(4, -1)=UNKNOWN copy(4, -8)=UNKNOWN copy(4, -10)=UNKNOWN copy(4, 16)=UNKNOWN "
                + "copy(4, 32)=UNKNOWN copy(4, MIN)=UNKNOWN copy(4, MAX)=UNKNOWN");
        E.still("SIDE b of sixteen", Edges.SIXTEEN_SIDES, "copy(0, 16)=UNKNOWN copy(0, -1)=UNKNOWN copy(15, 16)=UNKNOWN");
        E.still("there are none", "", "copy(0, NONE)=UNKNOWN copy(0, 0)=UNKNOWN copy(NONE, NONE)=UNKNOWN");
    }

    private static void promise28StateItself() {
        E.still("a itself", FOUR, "copy(0, 0)=STATE copy(3, 3)=STATE");
        E.still("a itself, that is a COPY of another", Edges.SOME, "copy(1, 1)=STATE copy(3, 3)=STATE");
    }

    private static void promise28StateThroughOthers() {
        E.still("b is a COPY of a", FOUR + "copy(1, 0) ", "copy(0, 1)=STATE");
        E.still("through others", FOUR + "copy(1, 0) copy(2, 1) copy(3, 2) ", "copy(0, 2)=STATE copy(0, 3)=STATE copy(1, 3)=STATE copy(1, 2)=STATE");
        E.still("through as many as there can be", chainOfSixteen(), "copy(15, 0)=STATE copy(15, 1)=STATE copy(15, 14)=STATE copy(1, 0)=STATE");
    }

    private static void promise28NoStateWithoutCircle() {
        E.run("a is a COPY of b already", FOUR + "copy(1, 0) copy(1, 0)=0 told(1, 8)=0");
        E.run("of one farther up", FOUR + "copy(1, 0) copy(2, 1) copy(2, 0)=1 told(2, 8)=0");
        E.run("of another COPY of the same one", FOUR + "copy(1, 0) copy(2, 0) copy(1, 2)=0 told(1, 8)=2");
        E.run("what was let go is no COPY", FOUR + "copy(1, 0) copy(0, 1)=STATE copy(1, NONE)=0 copy(0, 1)=NONE told(0, 8)=1");
        E.run("the whole chain under another one", "side(1, 1, 1, 1) ".repeat(16) + "copy(1, 0) copy(2, 1) copy(3, 2) copy(0, 15)=NONE "
                + "copies(15)=0x800f copy(15, 3)=STATE");
    }

    private static void promise28Order() {
        E.still("UNKNOWN is told ahead of STATE", Edges.SOME, "copy(5, 5)=UNKNOWN copy(-1, -1)=UNKNOWN copy(5, 0)=UNKNOWN");
        E.still("NONE is never STATE", Edges.SOME, "copy(0, NONE)=NONE copy(4, NONE)=NONE");
    }

    private static void promise29ItItself() {
        E.still("it itself", FOUR, "copies(0)=1 copies(3)=8");
        E.still("it itself, the last of sixteen", Edges.SIXTEEN_SIDES, "copies(0)=1 copies(15)=0x8000");
        E.still("not what it is a COPY of", FOUR + "copy(1, 0) copy(2, 0) ", "copies(1)=2 copies(2)=4 copies(0)=7 copies(3)=8");
    }

    private static void promise29ThroughOthers() {
        E.still("through others", Edges.SOME, "copies(0)=11 copies(1)=10 copies(3)=8 copies(2)=4");
        E.still("through as many as there can be", chainOfSixteen(), "copies(15)=0xffff copies(14)=0x7fff copies(1)=3 copies(0)=1");
        E.still("no more, once one of them is let go", chainOfSixteen() + "copy(7, NONE) ", "copies(15)=0xff00 copies(7)=0xff copies(8)=0x100");
    }

    private static void promise29Unknown() {
        E.numbers("no such SIDE", Edges.SOME, "copies(#)", Edges.SIDES_OF_SOME);
        E.numbers("no such SIDE of sixteen", Edges.SIXTEEN_SIDES, "copies(#)", 16);
        E.still("there are none", "", "copies(0)=UNKNOWN");
    }

    private static void promise30ItItself() {
        E.still("it itself alone", FOUR, "clearest(0)=0 clearest(3)=3");
        E.still("it itself alone, not SOUND at all", "side(1, 0, 0, 0) ", "clearest(0)=0");
        E.still("it itself is clearest", "side(1, 100, 0, 0) side(1, 99, 0, 0) copy(1, 0) ", "clearest(0)=0 clearest(1)=1");
        E.still("not what it is a COPY of", "side(1, 100, 0, 0) side(1, 1, 0, 0) copy(1, 0) ", "clearest(1)=1");
    }

    private static void promise30MostSound() {
        E.still("one more is enough", "side(1, 98, 0, 0) side(1, 99, 0, 0) side(1, 100, 0, 0) copy(1, 0) copy(2, 1) ", "clearest(0)=2 clearest(1)=2");
        E.still("0 and 1", "side(1, 0, 0, 0) side(1, 1, 0, 0) side(1, 0, 0, 0) copy(1, 0) copy(2, 0) ", "clearest(0)=1");
        E.still("one that is no COPY of it does not count", "side(1, 1, 0, 0) side(1, 100, 0, 0) ", "clearest(0)=0");
        E.still("as SOUND as it is by now", "side(1, 60, 0, 0) side(1, 70, 0, 5) copy(1, 0) pass(1) ", "clearest(0)=1");
        E.still("as SOUND as it is by now, the year when they are like", "side(1, 60, 0, 0) side(1, 70, 0, 5) copy(1, 0) pass(2) ", "clearest(0)=0");
        E.still("at the end of the longest chain", chainOfSixteen().replaceFirst("50", "51"), "clearest(15)=0 clearest(1)=0");
    }

    private static void promise30FewestBetween() {
        E.still("it itself goes before its COPIES", FOUR + "copy(1, 0) copy(2, 1) ", "clearest(0)=0 clearest(1)=1");
        E.still("it itself goes before its COPIES of less numbers", FOUR + "copy(0, 3) copy(1, 0) ", "clearest(3)=3 clearest(0)=0");
        String one = "side(1, 50, 0, 0) side(1, 50, 0, 0) side(1, 50, 0, 0) side(1, 9, 0, 0) ";
        E.still("a COPY goes before a COPY of it, of a less number", one + "copy(2, 3) copy(0, 2) ", "clearest(3)=2");
        E.still("one between goes before two", one.replaceFirst("9, 0, 0", "8, 0, 0") + "side(1, 9, 0, 0) copy(3, 4) copy(2, 3) copy(1, 2) copy(0, 1) ",
                "clearest(4)=2 clearest(3)=2");
        E.still("the longest chain", chainOfSixteen(), "clearest(15)=15 clearest(14)=14 clearest(0)=0");
    }

    private static void promise30TheLeast() {
        E.still("then the least", "side(1, 9, 0, 0) " + FOUR + "copy(4, 0) copy(3, 0) copy(2, 0) copy(1, 0) ", "clearest(0)=1");
        E.still("the least of those as far", "side(1, 9, 0, 0) side(1, 9, 0, 0) side(1, 9, 0, 0) " + FOUR
                + "copy(1, 0) copy(2, 0) copy(6, 1) copy(4, 2) copy(5, 1) ", "clearest(0)=4 clearest(1)=5 clearest(2)=4");
        E.still("0 and 15", Edges.SIXTEEN_SIDES + "read(7, true) copy(15, 7) copy(0, 7) ", "clearest(7)=0");
    }

    private static void promise30Unknown() {
        E.numbers("no such SIDE", Edges.SOME, "clearest(#)", Edges.SIDES_OF_SOME);
        E.numbers("no such SIDE of sixteen", Edges.SIXTEEN_SIDES, "clearest(#)", 16);
        E.still("there are none", "", "clearest(0)=UNKNOWN");
    }

    private static void promise31AtFirstAndFull() {
        E.still("at first", "", "total(0)=0 total(1)=0 total(2)=0 total(3)=0 total(4)=0 total(5)=0");
        E.still("of some", Edges.SOME, "total(0)=5 total(1)=3 total(2)=3 total(3)=3 total(4)=4 total(5)=300");
        E.still("16 SIDES", Edges.SIXTEEN_SIDES, "total(0)=16");
        E.still("YEAR 1000", Edges.YEAR_1000, "total(1)=1000");
        E.still("60 SIGNS", "side(1, 1, 1, 1) " + "sign(0, 1, 1, 1) ".repeat(60), "total(2)=60");
        E.still("7 PIECES", Edges.SEVEN_PIECES, "total(3)=7");
        E.still("60 TEXTS", Edges.SIXTY_TEXTS, "total(4)=60");
        E.run("no more, if more are refused", "side(1, 1, 1, 1) ".repeat(17) + "sign(0, 1, 1, 1) ".repeat(61) + "piece(1, 1) ".repeat(8)
                + "text(0, 0, 0, 0, true) ".repeat(61) + "pass(100) ".repeat(11)
                + "total(0)=16 total(1)=1000 total(2)=60 total(3)=7 total(4)=60 total(5)=0");
    }

    private static void promise31SignsThatCount() {
        E.run("each dropped one is one less", "side(1, 1, 1, 1) sign(0, 1, 1, 1) sign(0, 1, 1, 1) total(2)=2 drop(0)=1 total(2)=1 "
                + "drop(0)=STATE total(2)=1 drop(1)=1 total(2)=0 sign(0, 1, 1, 1)=2 total(2)=1");
    }

    private static void promise31HowSoundAllAre() {
        E.still("all that there can be", "side(0, 100, 0, 0) ".repeat(16), "total(5)=1600");
        E.run("by WEAR and ROT, not below 0", "side(1, 100, 60, 0) side(1, 50, 0, 30) total(5)=150 read(0, true)=40 total(5)=90 "
                + "pass(1) total(5)=60 pass(1) total(5)=40 read(0, true)=0 total(5)=0");
    }

    private static void promise31Bad() {
        E.bounds("what 0 .. 5", Edges.SOME, "total(#)", 0, 5, "BAD");
        E.bounds("what 0 .. 5, at first too", "", "total(#)", 0, 5, "BAD");
        E.still("NONE is no what", Edges.SOME, "total(NONE)=BAD");
    }
}
