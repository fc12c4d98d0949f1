/** The boundary cases of 'Terms' part 3 (PIECES) and of promises 16 to 21, one test for each sentence. */
public final class PiecesEdgesTest {
    private static final Check T = new Check("edges of pieces");
    private static final Edges E = new Edges(T);

    public static void main(String[] args) {
        promise16NumbersUpToFull();
        promise16Bad();
        promise16Full();
        promise17NoneAndAll();
        promise17LaidAnew();
        promise18AtFirst();
        promise18WhatItWas();
        promise18Bad();
        promise19NoPieces();
        promise19OnePiece();
        promise19JustNoMoreApart();
        promise19OuterEdges();
        promise19AllRows();
        promise20None();
        promise20LeastAndMost();
        promise20OfRowsAlone();
        promise21Places();
        promise21None();
        promise21FirstPlaceByPlace();
        T.end();
    }

    private static void promise16NumbersUpToFull() {
        E.run("numbers 0 .. 6, then FULL", "piece(0, 0)=0 piece(1, 1)=1 piece(2, 2)=2 piece(3, 3)=3 piece(4, 4)=4 "
                + "piece(5, 5)=5 piece(6, 6)=6 piece(7, 7)=FULL piece(0, 0)=FULL total(3)=7 sweep()=7");
        E.run("what is refused takes no number", "piece(0, 100)=BAD piece(0, 0)=0 piece(-1, 0)=BAD piece(0, 0)=1 total(3)=2");
    }

    private static void promise16Bad() {
        E.bounds("left edge 0 .. 99", Edges.SOME, "piece(#, 50)", 0, 99, "BAD");
        E.bounds("right edge 0 .. 99", Edges.SOME, "piece(50, #)", 0, 99, "BAD");
        E.still("both", Edges.SOME, "piece(-1, -1)=BAD piece(100, 100)=BAD piece(NONE, NONE)=BAD");
    }

    private static void promise16Full() {
        E.still("FULL alone", Edges.SEVEN_PIECES, "piece(0, 0)=FULL piece(99, 99)=FULL");
        E.still("BAD is told ahead of FULL", Edges.SEVEN_PIECES,
                "piece(-1, 0)=BAD piece(100, 0)=BAD piece(0, -1)=BAD piece(0, 100)=BAD piece(MIN, MAX)=BAD");
    }

    private static void promise17NoneAndAll() {
        E.still("none", "tolerance(7) side(1, 1, 1, 1) ", "sweep()=0");
        E.run("one", "piece(1, 2)=0 sweep()=1 sweep()=0");
        E.run("seven", "piece(4, 4) ".repeat(7) + "sweep()=7 total(3)=0 sweep()=0 rows()=0 misfit()=NONE inRow(0)=NONE");
    }

    private static void promise17LaidAnew() {
        E.run("numbers begin anew, up to FULL again", "piece(4, 4) ".repeat(7) + "sweep()=7 piece(9, 1)=0 piece(2, 2)=1 "
                + "piece(3, 3)=2 piece(4, 4)=3 piece(5, 5)=4 piece(6, 6)=5 piece(7, 7)=6 piece(8, 8)=FULL");
        E.run("what was there leaves nothing behind", "piece(1, 2) piece(2, 3) piece(3, 1) rows()=3 sweep()=3 piece(2, 9)=0 "
                + "rows()=1 misfit()=0 inRow(0)=0 inRow(1)=NONE");
        E.run("TOLERANCE stays", "tolerance(5)=0 piece(1, 1) sweep()=1 tolerance(6)=5");
    }

    private static void promise18AtFirst() {
        E.run("0 at first", "tolerance(0)=0 tolerance(9)=0");
        E.run("0 at first: just as far", "piece(1, 5) piece(5, 9) rows()=1 misfit()=0");
        E.run("0 at first: one apart", "piece(1, 5) piece(6, 9) rows()=0 misfit()=NONE");
    }

    private static void promise18WhatItWas() {
        E.run("what it was", "tolerance(99)=0 tolerance(1)=99 tolerance(1)=1 tolerance(0)=1 tolerance(99)=0");
    }

    private static void promise18Bad() {
        E.bounds("TOLERANCE 0 .. 99", Edges.SOME, "tolerance(#)", 0, 99, "BAD");
        E.run("what is refused changes nothing", "tolerance(99)=0 tolerance(100)=BAD tolerance(-1)=BAD tolerance(NONE)=BAD tolerance(0)=99");
    }

    private static void promise19NoPieces() {
        E.still("0: no PIECES", "", "rows()=0");
        E.still("0: no PIECES, whatever the TOLERANCE", "tolerance(99) ", "rows()=0");
        E.still("0: swept away", "piece(1, 1) piece(1, 1) sweep() ", "rows()=0");
    }

    private static void promise19OnePiece() {
        E.still("one is a ROW", "piece(0, 99) ", "rows()=1 misfit()=0 inRow(0)=0");
    }

    private static void promise19JustNoMoreApart() {
        String two = "piece(50, 20) piece(23, 90) ";
        E.still("as far as TOLERANCE", two + "tolerance(3) ", "rows()=1 misfit()=3 inRow(0)=0 inRow(1)=1");
        E.still("one more than TOLERANCE", two + "tolerance(2) ", "rows()=0 misfit()=NONE inRow(0)=NONE");
        String turned = "piece(50, 23) piece(20, 90) ";
        E.still("as far, the other way", turned + "tolerance(3) ", "rows()=1 misfit()=3");
        E.still("one more, the other way", turned + "tolerance(2) ", "rows()=0");
        E.still("99 apart", "piece(0, 99) piece(0, 99) tolerance(99) ", "rows()=2 misfit()=99");
        E.still("99 apart is more than 98", "piece(0, 99) piece(0, 99) tolerance(98) ", "rows()=0 misfit()=NONE");
    }

    private static void promise19OuterEdges() {
        E.still("the first left edge and the last right edge touch nothing", "piece(0, 50) piece(50, 99) ",
                "rows()=1 misfit()=0 inRow(0)=0 inRow(1)=1");
    }

    private static void promise19AllRows() {
        E.still("like PIECES are not the same", "piece(4, 4) piece(4, 4) ", "rows()=2");
        E.still("all ROWS of seven", "piece(4, 4) ".repeat(7), "rows()=5040");
        E.still("all PIECES: one that fits nowhere leaves none", "piece(4, 4) ".repeat(6) + "piece(9, 9) ", "rows()=0 misfit()=NONE inRow(0)=NONE");
        E.still("one ROW of seven", "piece(60, 70) piece(10, 20) piece(50, 60) piece(20, 30) piece(40, 50) piece(0, 10) piece(30, 40) ",
                "rows()=1 misfit()=0 inRow(0)=5 inRow(1)=1 inRow(2)=3 inRow(3)=6 inRow(4)=4 inRow(5)=2 inRow(6)=0");
    }

    private static void promise20None() {
        E.still("NONE: there are no PIECES", "tolerance(99) ", "misfit()=NONE");
        E.still("NONE: there is no ROW", "piece(0, 1) piece(2, 3) ", "misfit()=NONE");
    }

    private static void promise20LeastAndMost() {
        E.still("0 of one PIECE", "piece(99, 0) ", "misfit()=0");
        E.still("0 of seven", "piece(4, 4) ".repeat(7), "misfit()=0");
        E.still("of a ROW that does not begin with PIECE 0", Edges.SOME, "misfit()=2");
        E.still("most of seven", "piece(0, 99) ".repeat(7) + "tolerance(99) ", "misfit()=594 rows()=5040");
        E.still("most, the other way", "piece(99, 0) ".repeat(7) + "tolerance(99) ", "misfit()=594");
    }

    private static void promise20OfRowsAlone() {
        // 0 1 2 is 0 + 6 apart, 1 2 0 and 2 0 1 are farther: the one gap of 6 is what TOLERANCE tells of
        String three = "piece(50, 10) piece(10, 20) piece(26, 90) ";
        E.still("a gap within TOLERANCE", three + "tolerance(6) ", "misfit()=6 rows()=1");
        E.still("no ROW, though the rest would fit", three + "tolerance(5) ", "misfit()=NONE rows()=0");
        // 0 1 2 is 7 + 0 apart, 0 2 1 is 5 + 5
        String choice = "piece(99, 10) piece(17, 15) piece(15, 12) ";
        E.still("the smaller sum, if its gaps are allowed", choice + "tolerance(7) ", "misfit()=7 inRow(0)=0 inRow(1)=1 inRow(2)=2");
        E.still("not the smaller sum, if one gap is too large", choice + "tolerance(6) ", "misfit()=10 inRow(0)=0 inRow(1)=2 inRow(2)=1");
    }

    private static void promise21Places() {
        E.still("each place", Edges.SOME, "inRow(0)=2 inRow(1)=0 inRow(2)=1");
        E.still("the last place of seven", "piece(4, 4) ".repeat(7), "inRow(0)=0 inRow(6)=6 inRow(7)=NONE");
    }

    private static void promise21None() {
        E.still("NONE: there is no such place", Edges.SOME,
                "inRow(3)=NONE inRow(-1)=NONE inRow(7)=NONE inRow(NONE)=NONE inRow(MIN)=NONE inRow(MAX)=NONE");
        E.still("NONE: there are no PIECES", "", "inRow(0)=NONE inRow(-1)=NONE inRow(6)=NONE");
        E.still("NONE: there is no ROW", "piece(0, 1) piece(2, 3) ", "inRow(0)=NONE inRow(1)=NONE inRow(2)=NONE");
    }

    private static void promise21FirstPlaceByPlace() {
        E.still("the least PIECE at the first place that differs", "piece(1, 1) piece(1, 1) piece(1, 1) ", "inRow(0)=0 inRow(1)=1 inRow(2)=2");
        E.still("first at place 0", "piece(9, 5) piece(5, 9) ", "rows()=2 inRow(0)=0 inRow(1)=1");
        // 0 1 2 and 0 2 1 are both 4 apart in sum
        E.still("then at place 1", "piece(50, 10) piece(12, 12) piece(14, 14) tolerance(99) ", "misfit()=4 inRow(0)=0 inRow(1)=1 inRow(2)=2");
        // PIECE 1 is 9 from 0, as far as NONE is from 0, but nothing can follow it
        E.still("not one that leads to no ROW", "piece(50, 10) piece(19, 80) piece(10, 19) tolerance(9) ",
                "rows()=1 misfit()=0 inRow(0)=0 inRow(1)=2 inRow(2)=1");
        E.still("of the least MISFIT, not the first of all", "piece(9, 5) piece(4, 9) tolerance(9) ", "rows()=2 misfit()=0 inRow(0)=1 inRow(1)=0");
    }
}
