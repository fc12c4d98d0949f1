/** Promises 28 to 31. */
public final class CopiesTest {
    private static final Check T = new Check("copies");
    private static final int NONE = WaxVoices.NONE, UNKNOWN = WaxVoices.UNKNOWN, STATE = WaxVoices.STATE;

    public static void main(String[] args) {
        copyTellsOfWhichItWas();
        noCircles();
        allCopies();
        theLongestChain();
        theClearest();
        likeOnes();
        totals();
        T.end();
    }

    private static WaxVoices withSounds(int... sounds) {
        WaxVoices x = new WaxVoices();
        for (int sound : sounds) {
            x.side(1, sound, 10, 0);
        }
        return x;
    }

    private static void copyTellsOfWhichItWas() {
        WaxVoices x = withSounds(1, 1, 1);
        T.due("of none at first", x.copy(1, 0), NONE);
        T.due("told", x.told(1, 8), 0);
        T.due("of another", x.copy(1, 2), 0);
        T.due("told", x.told(1, 8), 2);
        T.due("the same again", x.copy(1, 2), 2);
        T.due("of none", x.copy(1, NONE), 2);
        T.due("told", x.told(1, 8), NONE);
        T.due("of none again", x.copy(1, NONE), NONE);
    }

    private static void noCircles() {
        WaxVoices x = withSounds(1, 1, 1, 1);
        x.copy(1, 0);
        x.copy(2, 1);
        T.due("b is a copy of a", x.copy(0, 1), STATE);
        T.due("through another", x.copy(0, 2), STATE);
        T.due("further down", x.copy(1, 2), STATE);
        T.due("refused: it stays", x.told(1, 8), 0);
        T.due("up is fine", x.copy(2, 0), 1);
        T.due("then this is", x.copy(1, 2), 0);
        T.due("a free one", x.copy(0, 3), NONE);
        T.due("a circle of four", x.copy(3, 1), STATE);
    }

    private static void allCopies() {
        WaxVoices x = withSounds(1, 1, 1, 1, 1);
        T.due("itself", x.copies(0), 1);
        x.copy(1, 0);
        x.copy(2, 0);
        x.copy(3, 2);
        T.due("all", x.copies(0), 15);
        T.due("below one", x.copies(2), 12);
        T.due("a last one", x.copies(3), 8);
        T.due("another", x.copies(4), 16);
        x.copy(2, NONE);
        T.due("with all below it gone", x.copies(0), 3);
        T.due("side 5", x.copies(5), UNKNOWN);
        T.due("side -1", x.copies(-1), UNKNOWN);
    }

    private static void theLongestChain() {
        WaxVoices x = new WaxVoices();
        for (int i = 0; i < 16; i++) {
            x.side(1, 50, 0, 0);
        }
        for (int i = 0; i < 15; i++) {
            x.copy(i, i + 1);
        }
        T.due("all sixteen", x.copies(15), 65535);
        T.due("a circle of sixteen", x.copy(15, 0), STATE);
        T.due("the nearest", x.clearest(15), 15);
        T.due("from the end", x.copies(0), 1);
    }

    private static void theClearest() {
        WaxVoices x = withSounds(50, 60, 70, 80);
        T.due("itself alone", x.clearest(0), 0);
        x.copy(1, 0);
        x.copy(2, 1);
        T.due("through others", x.clearest(0), 2);
        T.due("not what it is a copy of", x.clearest(2), 2);
        x.read(2, true);
        x.read(2, true);
        T.due("as it is now", x.clearest(0), 1);
        T.due("side 4", x.clearest(4), UNKNOWN);
        T.due("side -1", x.clearest(-1), UNKNOWN);
    }

    private static void likeOnes() {
        WaxVoices x = withSounds(60, 60, 60, 50, 60);
        x.copy(2, 3);
        x.copy(1, 2);
        x.copy(4, 3);
        T.due("the nearer, not the less", x.clearest(3), 2);
        x.copy(0, 3);
        T.due("of as near ones the least", x.clearest(3), 0);
        T.due("itself is nearest", x.clearest(2), 2);
    }

    private static void totals() {
        WaxVoices x = withSounds(5, 6, 7);
        x.pass(4);
        x.sign(0, 1, 2, 3);
        x.sign(0, 1, 2, 3);
        x.drop(0);
        x.piece(1, 1);
        x.piece(1, 1);
        x.text(0, 0, 0, 0, true);
        int[] want = {3, 4, 1, 2, 1, 18};
        for (int what = 0; what < want.length; what++) {
            T.due("total(" + what + ")", x.total(what), want[what]);
        }
        T.due("total(6)", x.total(6), WaxVoices.BAD);
        T.due("total(-1)", x.total(-1), WaxVoices.BAD);
    }
}
