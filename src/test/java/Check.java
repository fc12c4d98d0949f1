/** Counts the answers of one test class that are not as due. */
final class Check {
    private final String part;
    private int asked;
    private int wrong;

    Check(String part) {
        this.part = part;
    }

    static WaxVoices withSides(int n) {
        WaxVoices x = new WaxVoices();
        for (int i = 0; i < n; i++) {
            x.side(1, 1, 1, 1);
        }
        return x;
    }

    void due(String call, long got, long want) {
        asked++;
        if (got != want) {
            wrong++;
            System.out.println(part + ": " + call + " answered " + got + ", due is " + want);
        }
    }

    void holds(String what, boolean is) {
        asked++;
        if (!is) {
            wrong++;
            System.out.println(part + ": not so: " + what);
        }
    }

    /** Tells the first line in which two texts differ. */
    void same(String what, String got, String want) {
        String[] gotLines = got.split("\n");
        String[] wantLines = want.split("\n");
        int line = 0;
        while (line < gotLines.length && line < wantLines.length && gotLines[line].equals(wantLines[line])) line++;
        String first = line < gotLines.length ? gotLines[line] : "it ends";
        holds(what + ", but: " + first, got.equals(want));
    }

    /** Ends the test class: with exit code 1 if an answer was wrong, or if nothing was asked. */
    void end() {
        System.out.println(part + ": " + asked + " answers, " + wrong + " of them wrong");
        if (wrong != 0 || asked == 0) {
            System.exit(1);
        }
    }
}
