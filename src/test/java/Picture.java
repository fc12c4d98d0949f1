/**
 * All that can be seen of an object, as a text. It takes some four hundred calls at most and leaves the object
 * changed: tolerance, families, the signs that count and the next numbers can't be seen in another way.
 */
final class Picture {
    private final WaxVoices x;
    private final StringBuilder text = new StringBuilder();

    private Picture(WaxVoices x) {
        this.x = x;
    }

    static String of(WaxVoices x) {
        Picture p = new Picture(x);
        p.wholes();
        int sides = x.total(0);
        for (int i = 0; i < sides; i++) p.side(i);
        p.plans(Math.min(sides, 6));
        p.pieces();
        p.texts();
        p.whatIsSeenByChanging(sides);
        return p.text.toString();
    }

    private void add(String name, int answer) {
        text.append(name).append(' ').append(answer).append('\n');
    }

    private void wholes() {
        for (int what = 0; what <= 5; what++) add("total " + what, x.total(what));
    }

    private void side(int i) {
        for (int what = 0; what <= 8; what++) add("side " + i + " told " + what, x.told(i, what));
        add("side " + i + " speed", x.speed(i));
        add("side " + i + " span", x.span(i));
        add("side " + i + " quarrels", x.quarrels(i));
        add("side " + i + " copies", x.copies(i));
        add("side " + i + " clearest", x.clearest(i));
    }

    private void plans(int sides) {
        int set = (1 << sides) - 1;
        add("best", x.best(set, 3, 15));
        add("needed", x.needed(set, 2, 1000));
    }

    private void pieces() {
        add("rows", x.rows());
        add("misfit", x.misfit());
        for (int place = 0; place < 7; place++) add("in row " + place, x.inRow(place));
    }

    private void texts() {
        for (int hearer = 0; hearer < 6; hearer++) {
            add("heard first " + hearer, x.heard(hearer, 0));
            add("heard " + hearer, x.heard(hearer, 25));
            add("heard last " + hearer, x.heard(hearer, 9999));
        }
        for (int family = 0; family < 8; family++) {
            for (int song = 0; song < 4; song++) {
                add("counts " + family + " " + song, x.counts(family, song, 0, 9999));
            }
        }
    }

    private void whatIsSeenByChanging(int sides) {
        add("tolerance", x.tolerance(0));
        for (int i = 0; i < sides; i++) add("families " + i, x.sung(i, 0, 0));
        for (int sign = 0; sign < 60; sign++) add("drop " + sign, x.drop(sign));
        add("next side", x.side(0, 0, 0, 0));
        add("next sign", x.sign(0, 1, 1, 1));
        add("next piece", x.piece(0, 0));
        add("next text", x.text(0, 0, 0, 0, true));
    }
}
