/** The boundary cases of 'Terms' part 1 (SIDES) and of promises 1 to 6, one test for each sentence. */
public final class SidesEdgesTest {
    private static final Check T = new Check("edges of sides");
    private static final Edges E = new Edges(T);

    public static void main(String[] args) {
        promise1NoSides();
        promise1YearZero();
        promise1NothingElse();
        promise2NumbersUpToFull();
        promise2Bad();
        promise2ValuesAreKept();
        promise3AtFirst();
        promise3LeastAndGreatest();
        promise3Unknown();
        promise3Bad();
        promise4EachWhat();
        promise4Unknown();
        promise4Bad();
        promise4LatestReading();
        promise4Plays();
        promise4OfWhatItIsACopy();
        promise5SoundIsNeverBelowZero();
        promise5ByLightNothingIsLost();
        promise5Unknown();
        promise5State();
        promise6OneToHundred();
        promise6Full();
        promise6Rot();
        promise6SidesThatComeLater();
        T.end();
    }

    private static void promise1NoSides() {
        E.run("no SIDES", "total(0)=0 total(5)=0 told(0, 0)=UNKNOWN told(-1, 0)=UNKNOWN read(0, true)=UNKNOWN "
                + "hours(0, 1, 1)=UNKNOWN sign(0, 1, 1, 1)=UNKNOWN speed(0)=UNKNOWN span(0)=UNKNOWN "
                + "weighs(0, 1)=UNKNOWN quarrels(0)=UNKNOWN sung(0, 0, 0)=UNKNOWN may(0, 0, 0)=UNKNOWN "
                + "copy(0, NONE)=UNKNOWN copies(0)=UNKNOWN clearest(0)=UNKNOWN best(1, 1, 1)=UNKNOWN "
                + "does(0, 1, 1, 0)=UNKNOWN needed(1, 1, 0)=UNKNOWN days(1, 0, 0, 0)=UNKNOWN heard(0, 0)=0");
        E.run("the first SIDE is 0", "side(1, 1, 1, 1)=0 total(0)=1 told(0, 0)=1 told(1, 0)=UNKNOWN");
    }

    private static void promise1YearZero() {
        E.run("YEAR 0", "total(1)=0 side(1, 1, 1, 1)=0 read(0, false)=1 told(0, 7)=0");
    }

    private static void promise1NothingElse() {
        String empty = "total(0)=0 total(1)=0 total(2)=0 total(3)=0 total(4)=0 total(5)=0 drop(0)=UNKNOWN rows()=0 "
                + "misfit()=NONE inRow(0)=NONE sweep()=0 counts(0, 0, 0, 9999)=NONE tolerance(0)=0";
        E.run("no SIGNS, PIECES, TEXTS; TOLERANCE 0", empty);
        Run.wax(Edges.SOME);
        E.run("objects share nothing", empty);
    }

    private static void promise2NumbersUpToFull() {
        StringBuilder sixteen = new StringBuilder();
        for (int i = 0; i < 16; i++) sixteen.append("side(").append(i).append(", 1, 1, 1)=").append(i).append(' ');
        E.run("numbers 0 .. 15, then FULL", sixteen + "side(1, 1, 1, 1)=FULL side(0, 0, 0, 0)=FULL total(0)=16 "
                + "told(0, 0)=0 told(15, 0)=15 told(16, 0)=UNKNOWN");
        E.still("FULL alone", Edges.SIXTEEN_SIDES, "side(1, 1, 1, 1)=FULL side(1000, 100, 100, 100)=FULL");
        E.still("BAD is told ahead of FULL", Edges.SIXTEEN_SIDES, "side(-1, 1, 1, 1)=BAD side(1001, 1, 1, 1)=BAD "
                + "side(1, 101, 1, 1)=BAD side(1, 1, 101, 1)=BAD side(1, 1, 1, 101)=BAD side(1, 1, 1, -1)=BAD");
        E.run("what is refused takes no number", "side(1, 1, 1, 101)=BAD side(1, 1, 1, 1)=0 side(-1, 1, 1, 1)=BAD "
                + "side(1, 1, 1, 1)=1");
    }

    private static void promise2Bad() {
        E.bounds("WORTH 0 .. 1000", Edges.SOME, "side(#, 1, 1, 1)", 0, 1000, "BAD");
        E.bounds("SOUND 0 .. 100", Edges.SOME, "side(1, #, 1, 1)", 0, 100, "BAD");
        E.bounds("WEAR 0 .. 100", Edges.SOME, "side(1, 1, #, 1)", 0, 100, "BAD");
        E.bounds("ROT 0 .. 100", Edges.SOME, "side(1, 1, 1, #)", 0, 100, "BAD");
    }

    private static void promise2ValuesAreKept() {
        E.run("the least values are kept", "side(0, 0, 0, 0)=0 told(0, 0)=0 told(0, 1)=0 told(0, 2)=0 told(0, 3)=0");
        E.run("the greatest values are kept", "side(1000, 100, 100, 100)=0 told(0, 0)=1000 told(0, 1)=100 "
                + "told(0, 2)=100 told(0, 3)=100");
    }

    private static void promise3AtFirst() {
        E.run("10 and 5 at first", "side(1, 1, 1, 1)=0 told(0, 4)=10 told(0, 5)=5");
    }

    private static void promise3LeastAndGreatest() {
        E.run("1 .. 1000 each, of that SIDE alone", "side(1, 1, 1, 1) side(1, 1, 1, 1) hours(0, 1, 1000)=1 "
                + "told(0, 4)=1 told(0, 5)=1000 hours(0, 1000, 1)=1 told(0, 4)=1000 told(0, 5)=1 told(1, 4)=10 "
                + "told(1, 5)=5 hours(1, 1, 1)=1 told(1, 4)=1 told(1, 5)=1 told(0, 4)=1000 told(0, 5)=1");
    }

    private static void promise3Unknown() {
        E.numbers("no such SIDE", Edges.SOME, "hours(#, 1, 1)", Edges.SIDES_OF_SOME);
        E.numbers("no such SIDE of sixteen", Edges.SIXTEEN_SIDES, "hours(#, 1, 1)", 16);
        E.still("UNKNOWN is told ahead of BAD", Edges.SOME,
                "hours(5, 0, 1)=UNKNOWN hours(-1, 1, 1001)=UNKNOWN hours(NONE, 0, 0)=UNKNOWN");
    }

    private static void promise3Bad() {
        E.bounds("by LIGHT 1 .. 1000", Edges.SOME, "hours(0, #, 1)", 1, 1000, "BAD");
        E.bounds("by NEEDLE 1 .. 1000", Edges.SOME, "hours(0, 1, #)", 1, 1000, "BAD");
        E.still("if one is BAD, the other is not set either", Edges.SOME, "hours(1, 7, 1001)=BAD hours(1, 0, 7)=BAD");
    }

    private static void promise4EachWhat() {
        E.still("each what", Edges.SOME, "told(0, 0)=100 told(0, 1)=74 told(0, 2)=7 told(0, 3)=3 told(0, 4)=20 "
                + "told(0, 5)=8 told(0, 6)=1 told(0, 7)=3 told(0, 8)=NONE");
        E.still("each what of another one", Edges.SOME, "told(3, 0)=7 told(3, 1)=74 told(3, 2)=20 told(3, 3)=2 "
                + "told(3, 4)=10 told(3, 5)=5 told(3, 6)=0 told(3, 7)=NONE told(3, 8)=1");
    }

    private static void promise4Unknown() {
        E.numbers("no such SIDE", Edges.SOME, "told(#, 8)", Edges.SIDES_OF_SOME);
        E.numbers("no such SIDE of sixteen", Edges.SIXTEEN_SIDES, "told(#, 0)", 16);
        E.still("UNKNOWN is told ahead of BAD", Edges.SOME, "told(5, 9)=UNKNOWN told(-1, -1)=UNKNOWN told(NONE, 9)=UNKNOWN");
    }

    private static void promise4Bad() {
        E.bounds("what 0 .. 8", Edges.SOME, "told(2, #)", 0, 8, "BAD");
        E.still("NONE is no what", Edges.SOME, "told(2, NONE)=BAD");
    }

    private static void promise4LatestReading() {
        E.run("NONE, then the YEAR of the latest one", "side(1, 100, 1, 0) told(0, 7)=NONE read(0, false)=100 "
                + "told(0, 7)=0 pass(1)=1 told(0, 7)=0 read(0, true)=99 told(0, 7)=1 pass(100)=101 read(0, false)=99 "
                + "told(0, 7)=101");
        E.run("a READING in the last YEAR", Edges.YEAR_1000 + "read(0, true)=47 told(0, 7)=1000");
        E.run("one that is refused is none", "side(1, 1, 1, 0) read(0, true)=0 pass(1)=1 read(0, true)=STATE "
                + "read(0, false)=STATE told(0, 7)=0");
    }

    private static void promise4Plays() {
        E.run("by NEEDLE alone", "side(1, 100, 0, 0) told(0, 6)=0 read(0, false)=100 told(0, 6)=0 read(0, true)=100 "
                + "told(0, 6)=1 read(0, true)=100 told(0, 6)=2 read(0, false)=100 told(0, 6)=2");
        E.run("one that is refused is none", "side(1, 0, 0, 0) read(0, true)=STATE told(0, 6)=0");
        E.run("as often as there are calls", "side(1, 100, 0, 0) " + "read(0, true)=100 ".repeat(510) + "told(0, 6)=510");
    }

    private static void promise4OfWhatItIsACopy() {
        E.run("NONE at first, then SIDE 0 too, then NONE again", "side(1, 1, 1, 1) side(1, 1, 1, 1) told(1, 8)=NONE "
                + "copy(1, 0)=NONE told(1, 8)=0 told(0, 8)=NONE copy(1, NONE)=0 told(1, 8)=NONE");
    }

    private static void promise5SoundIsNeverBelowZero() {
        E.run("as much as there is is lost", "side(1, 100, 100, 0) read(0, true)=0 told(0, 1)=0 told(0, 6)=1");
        E.run("all but one", "side(1, 100, 99, 0) read(0, true)=1 read(0, true)=0 told(0, 1)=0 told(0, 6)=2");
        E.run("more than there is", "side(1, 1, 100, 0) read(0, true)=0 told(0, 1)=0 total(5)=0");
        E.run("WEAR 0 loses nothing", "side(1, 1, 0, 0) read(0, true)=1 read(0, true)=1 told(0, 6)=2");
        E.run("the WEAR of that SIDE alone", "side(1, 50, 3, 0) side(1, 50, 4, 0) read(1, true)=46 told(0, 1)=50");
    }

    private static void promise5ByLightNothingIsLost() {
        E.run("by LIGHT nothing is lost", "side(1, 100, 100, 100) read(0, false)=100 read(0, false)=100 told(0, 1)=100");
        E.run("the least SOUND is read", "side(1, 1, 100, 100) read(0, false)=1 told(0, 7)=0");
    }

    private static void promise5Unknown() {
        E.numbers("no such SIDE, by LIGHT", Edges.SIXTEEN_SIDES, "read(#, false)", 16);
        E.numbers("no such SIDE, by NEEDLE", Edges.SIXTEEN_SIDES, "read(#, true)", 16);
        E.still("no such SIDE of some", Edges.SOME, "read(5, false)=UNKNOWN read(-1, true)=UNKNOWN");
    }

    private static void promise5State() {
        E.still("it is not SOUND at all", Edges.SOME, "read(4, false)=STATE read(4, true)=STATE");
        E.run("by WEAR", "side(1, 1, 1, 0) read(0, true)=0 read(0, false)=STATE read(0, true)=STATE told(0, 6)=1");
        E.run("by ROT", "side(1, 1, 1, 1) pass(1) read(0, false)=STATE read(0, true)=STATE told(0, 6)=0 told(0, 7)=NONE");
    }

    private static void promise6OneToHundred() {
        E.bounds("n is 1 .. 100", Edges.SOME, "pass(#)", 1, 100, "BAD");
        E.run("THE YEAR", "pass(1)=1 pass(100)=101 pass(99)=200 total(1)=200");
        E.still("0 and NONE", Edges.SOME, "pass(0)=BAD pass(NONE)=BAD");
    }

    private static void promise6Full() {
        String year900 = "side(9, 50, 3, 2) " + "pass(100) ".repeat(9);
        E.run("1000 is not above 1000", year900 + "pass(100)=1000 total(1)=1000 pass(1)=FULL pass(100)=FULL total(1)=1000");
        E.run("1001 is", year900 + "pass(1)=901 pass(100)=FULL total(1)=901 pass(99)=1000");
        E.still("FULL alone", Edges.YEAR_1000, "pass(1)=FULL pass(100)=FULL");
        E.still("BAD is told ahead of FULL", Edges.YEAR_1000, "pass(0)=BAD pass(101)=BAD pass(MAX)=BAD pass(MIN)=BAD");
        E.run("what is refused rots nothing", "pass(100) ".repeat(9) + "side(1, 100, 0, 1) pass(50)=950 pass(51)=FULL "
                + "told(0, 1)=50 pass(50)=1000 told(0, 1)=0");
    }

    private static void promise6Rot() {
        E.run("each year", "side(1, 100, 0, 1) pass(1) told(0, 1)=99 pass(98) told(0, 1)=1 pass(1) told(0, 1)=0 "
                + "pass(1) told(0, 1)=0");
        E.run("never below 0", "side(1, 100, 100, 100) pass(100)=100 told(0, 1)=0 total(5)=0 pass(100)=200 told(0, 1)=0");
        E.run("just as much as there is", "side(1, 100, 0, 100) pass(1) told(0, 1)=0");
        E.run("ROT 0 loses nothing", "side(1, 1, 0, 0) " + "pass(100) ".repeat(10) + "told(0, 1)=1 read(0, true)=1");
        E.run("all SIDES lose, each its own", "side(1, 90, 0, 1) " + "side(1, 90, 0, 2) ".repeat(15)
                + "pass(10) told(0, 1)=80 told(1, 1)=70 told(15, 1)=70 total(5)=1130");
        E.run("a year is no play and no READING", "side(1, 50, 9, 1) pass(1) told(0, 6)=0 told(0, 7)=NONE");
    }

    private static void promise6SidesThatComeLater() {
        E.run("years gone by do not count for them", "pass(100) side(1, 100, 0, 100) told(0, 1)=100 read(0, true)=100 "
                + "told(0, 7)=100 pass(1) told(0, 1)=0");
    }
}
