/** Promises 16 to 21, and 31 for PIECES. */
public final class PiecesTest {
    private static final Check T = new Check("pieces");
    private static final int NONE = WaxVoices.NONE, BAD = WaxVoices.BAD;

    public static void main(String[] args) {
        piecesAreNumbered();
        piecesAreSweptAway();
        toleranceIsKept();
        rowsAreCounted();
        theFirstRowOfTheLeastMisfit();
        likeRowsGoByPlace();
        T.end();
    }

    private static void piecesAreNumbered() {
        WaxVoices x = new WaxVoices();
        for (int i = 0; i < 7; i++) {
            T.due("piece " + i, x.piece(i, i), i);
        }
        T.due("the 8th", x.piece(1, 1), WaxVoices.FULL);
        T.due("BAD goes before FULL", x.piece(100, 1), BAD);
        T.due("total(3)", x.total(3), 7);
    }

    private static void piecesAreSweptAway() {
        WaxVoices x = new WaxVoices();
        T.due("none", x.sweep(), 0);
        x.tolerance(5);
        x.piece(10, 20);
        x.piece(25, 30);
        T.due("two", x.sweep(), 2);
        T.due("none is left", x.sweep(), 0);
        T.due("no rows", x.rows(), 0);
        T.due("no misfit", x.misfit(), NONE);
        T.due("no first", x.inRow(0), NONE);
        T.due("total(3)", x.total(3), 0);
        T.due("numbers begin anew", x.piece(7, 9), 0);
        T.due("the tolerance stays", x.tolerance(5), 5);
        T.due("one piece is a row", x.rows(), 1);
        T.due("that has no misfit", x.misfit(), 0);
        T.due("and begins with it", x.inRow(0), 0);
        for (int i = 1; i < 7; i++) {
            T.due("seven anew", x.piece(1, 1), i);
        }
    }

    private static void toleranceIsKept() {
        WaxVoices x = new WaxVoices();
        T.due("0 at first", x.tolerance(99), 0);
        T.due("100", x.tolerance(100), BAD);
        T.due("-1", x.tolerance(-1), BAD);
        T.due("99", x.tolerance(0), 99);
        T.due("0", x.tolerance(0), 0);
    }

    private static void rowsAreCounted() {
        WaxVoices x = new WaxVoices();
        x.piece(10, 20);
        x.piece(20, 10);
        T.due("both ways", x.rows(), 2);
        x.piece(15, 12);
        T.due("tolerance 0", x.rows(), 0);
        T.due("no misfit", x.misfit(), NONE);
        x.tolerance(2);
        // 2 goes behind none and 0 behind it
        T.due("tolerance 2", x.rows(), 1);
        T.due("first", x.inRow(0), 2);
        T.due("second", x.inRow(1), 0);
        T.due("third", x.inRow(2), 1);
        T.due("misfit", x.misfit(), 2);
        x.tolerance(1);
        T.due("just too far apart", x.rows(), 0);
        x.tolerance(99);
        T.due("all", x.rows(), 6);
        for (int i = 3; i < 7; i++) {
            x.piece(0, 99);
        }
        T.due("all of seven", x.rows(), 5040);
        x.tolerance(98);
        T.holds("99 apart is too far then", x.rows() < 5040);
    }

    private static void theFirstRowOfTheLeastMisfit() {
        WaxVoices x = new WaxVoices();
        x.tolerance(99);
        x.piece(50, 90);
        x.piece(5, 49);
        x.piece(88, 3);
        // 0 2 1: 2 + 2; 1 0 2: 1 + 2; 2 1 0: 2 + 1
        T.due("misfit", x.misfit(), 3);
        T.due("of like ones the first", x.inRow(0), 1);
        T.due("then", x.inRow(1), 0);
        T.due("then", x.inRow(2), 2);
        x.tolerance(2);
        T.due("rows", x.rows(), 3);
        x.tolerance(1);
        T.due("rows", x.rows(), 0);
        T.due("none", x.inRow(0), NONE);
    }

    private static void likeRowsGoByPlace() {
        WaxVoices x = new WaxVoices();
        for (int i = 0; i < 7; i++) {
            x.piece(4, 4);
        }
        T.due("all rows", x.rows(), 5040);
        T.due("misfit", x.misfit(), 0);
        for (int i = 0; i < 7; i++) {
            T.due("place " + i, x.inRow(i), i);
        }
    }
}
