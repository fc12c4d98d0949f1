import java.util.Arrays;

/**
 * Voices on wax: sides and the plans that save them, signs of their speeds, broken ones joined,
 * who may hear what, and copies of copies. What each call promises stands in DOC.md.
 */
public final class WaxVoices {
    public static final int UNKNOWN = -1, BAD = -2, STATE = -3, FULL = -4, NONE = -9;

    private static final int FINE = 0;
    private static final int MOST_SIDES = 16;
    private static final int MOST_WORTH = 1000;
    private static final int MOST_SOUND = 100;
    private static final int MOST_READING_HOURS = 1000;
    private static final int MOST_PASSED = 100;
    private static final int LAST_YEAR = 1000;
    private static final int LAST_DAY = 9999;
    private static final int FAMILIES = 8;
    private static final int SONGS = 4;
    private static final int HEARERS = 6;

    private final Side[] sides;
    private int sideCount;
    private int year;
    private final Planner planner;
    private final SignBook signs;
    private final Puzzle puzzle;
    private final TextBook texts;

    public WaxVoices() {
        sides = new Side[MOST_SIDES];
        sideCount = 0;
        year = 0;
        planner = new Planner();
        signs = new SignBook();
        puzzle = new Puzzle();
        texts = new TextBook();
    }

    // ---- sides

    public int side(int worth, int sound, int wear, int rot) {
        boolean fine = within(worth, 0, MOST_WORTH) && within(sound, 0, MOST_SOUND)
                && within(wear, 0, MOST_SOUND) && within(rot, 0, MOST_SOUND);
        if (!fine) {
            return BAD;
        }
        if (sideCount >= MOST_SIDES) {
            return FULL;
        }
        sides[sideCount] = new Side(worth, sound, wear, rot);
        sideCount++;
        return sideCount - 1;
    }

    public int hours(int side, int light, int needle) {
        if (!isSide(side)) {
            return UNKNOWN;
        }
        if (!within(light, 1, MOST_READING_HOURS) || !within(needle, 1, MOST_READING_HOURS)) {
            return BAD;
        }
        sides[side].lightHours = light;
        sides[side].needleHours = needle;
        return 1;
    }

    public int told(int side, int what) {
        if (!isSide(side)) {
            return UNKNOWN;
        }
        Side s = sides[side];
        switch (what) {
            case 0: return s.worth;
            case 1: return s.sound;
            case 2: return s.wear;
            case 3: return s.rot;
            case 4: return s.lightHours;
            case 5: return s.needleHours;
            case 6: return s.plays;
            case 7: return s.latestReading;
            case 8: return s.copyOf;
            default: return BAD;
        }
    }

    public int read(int side, boolean needle) {
        if (!isSide(side)) {
            return UNKNOWN;
        }
        Side s = sides[side];
        if (s.sound == 0) {
            return STATE;
        }
        if (needle) {
            s.lose(s.wear);
            s.plays++;
        }
        s.latestReading = year;
        return s.sound;
    }

    public int pass(int n) {
        if (!within(n, 1, MOST_PASSED)) {
            return BAD;
        }
        if (year + n > LAST_YEAR) {
            return FULL;
        }
        for (int i = 0; i < sideCount; i++) {
            sides[i].lose(sides[i].rot * n);
        }
        year += n;
        return year;
    }

    // ---- plans

    public int best(int set, int years, int hours) {
        int refusal = planRefusal(set, years, hours, Planner.MOST_HOURS);
        if (refusal != FINE) {
            return refusal;
        }
        takeIntoPlan(set, years);
        return planner.mostWith(hours);
    }

    public int does(int set, int years, int hours, int side) {
        int refusal = planRefusal(set, years, hours, Planner.MOST_HOURS);
        if (refusal != FINE) {
            return refusal;
        }
        if (!isSide(side)) {
            return UNKNOWN;
        }
        if (!holds(set, side)) {
            return NONE;
        }
        takeIntoPlan(set, years);
        int sidesBefore = set & ((1 << side) - 1);
        return planner.optionAt(Integer.bitCount(sidesBefore), hours);
    }

    public int needed(int set, int years, int saves) {
        int refusal = planRefusal(set, years, saves, Planner.MOST_SAVED);
        if (refusal != FINE) {
            return refusal;
        }
        takeIntoPlan(set, years);
        return planner.leastHours(saves);
    }

    private int planRefusal(int set, int years, int amount, int mostAmount) {
        if (!isSetOfSides(set)) {
            return UNKNOWN;
        }
        boolean fine = Integer.bitCount(set) <= Planner.MOST_PLACES
                && within(years, 1, Planner.MOST_YEARS) && within(amount, 0, mostAmount);
        return fine ? FINE : BAD;
    }

    private void takeIntoPlan(int set, int years) {
        planner.begin(years);
        for (int i = 0; i < sideCount; i++) {
            if (holds(set, i)) {
                planner.take(sides[i]);
            }
        }
    }

    // ---- speeds

    public int sign(int side, int low, int high, int weight) {
        if (!isSide(side)) {
            return UNKNOWN;
        }
        boolean fine = within(high, 1, SignBook.MOST_SPEED) && within(low, 1, high)
                && within(weight, 1, SignBook.MOST_WEIGHT);
        if (!fine) {
            return BAD;
        }
        if (signs.isFull()) {
            return FULL;
        }
        return signs.add(new Sign(side, low, high, weight));
    }

    public int drop(int sign) {
        if (!signs.has(sign)) {
            return UNKNOWN;
        }
        return signs.takeOut(sign) ? 1 : STATE;
    }

    public int speed(int side) {
        return isSide(side) ? signs.leastHeaviest(side) : UNKNOWN;
    }

    public int span(int side) {
        return isSide(side) ? signs.lastHeaviest(side) : UNKNOWN;
    }

    public int weighs(int side, int speed) {
        if (!isSide(side)) {
            return UNKNOWN;
        }
        return within(speed, 1, SignBook.MOST_SPEED) ? signs.weightAt(side, speed) : BAD;
    }

    public int quarrels(int side) {
        return isSide(side) ? signs.pairsApart(side) : UNKNOWN;
    }

    // ---- pieces

    public int piece(int left, int right) {
        if (!within(left, 0, Puzzle.LAST_GROOVE) || !within(right, 0, Puzzle.LAST_GROOVE)) {
            return BAD;
        }
        return puzzle.isFull() ? FULL : puzzle.add(left, right);
    }

    public int sweep() {
        return puzzle.clear();
    }

    public int tolerance(int n) {
        if (!within(n, 0, Puzzle.LAST_GROOVE)) {
            return BAD;
        }
        int before = puzzle.mostApart;
        puzzle.mostApart = n;
        return before;
    }

    public int rows() {
        return puzzle.countRows();
    }

    public int misfit() {
        return puzzle.leastMisfit();
    }

    public int inRow(int place) {
        return puzzle.pieceAt(place);
    }

    // ---- texts

    public int sung(int side, int families, int song) {
        if (!isSide(side) || !isSong(song)) {
            return UNKNOWN;
        }
        if (!within(families, 0, (1 << FAMILIES) - 1)) {
            return BAD;
        }
        int before = sides[side].families;
        sides[side].families = families;
        sides[side].song = song;
        return before;
    }

    public int text(int family, int song, int hearer, int day, boolean lets) {
        boolean songKnown = song == NONE || isSong(song);
        boolean hearerKnown = hearer == NONE || isHearer(hearer);
        if (!isFamily(family) || !songKnown || !hearerKnown) {
            return UNKNOWN;
        }
        if (!isDay(day)) {
            return BAD;
        }
        return texts.isFull() ? FULL : texts.add(askedBy(family, song), hearer, day, lets);
    }

    public int counts(int family, int song, int hearer, int day) {
        if (!isFamily(family) || !isSong(song) || !isHearer(hearer)) {
            return UNKNOWN;
        }
        return isDay(day) ? texts.latestFor(askedBy(family, song), hearer, day) : BAD;
    }

    public int may(int side, int hearer, int day) {
        if (!isSide(side) || !isHearer(hearer)) {
            return UNKNOWN;
        }
        if (!isDay(day)) {
            return BAD;
        }
        return sides[side].isLetBy(texts.letOn(hearer, day)) ? 1 : 0;
    }

    public int heard(int hearer, int day) {
        if (!isHearer(hearer)) {
            return UNKNOWN;
        }
        if (!isDay(day)) {
            return BAD;
        }
        int let = texts.letOn(hearer, day);
        int set = 0;
        for (int i = 0; i < sideCount; i++) {
            if (sides[i].isLetBy(let)) {
                set |= 1 << i;
            }
        }
        return set;
    }

    public int days(int set, int hearer, int from, int to) {
        if (!isSetOfSides(set) || !isHearer(hearer)) {
            return UNKNOWN;
        }
        if (!isDay(from) || !isDay(to) || to < from) {
            return BAD;
        }
        int asked = 0;
        for (int i = 0; i < sideCount; i++) {
            if (holds(set, i)) {
                asked |= sides[i].asked();
            }
        }
        return texts.daysThatLet(asked, hearer, from, to);
    }

    /**
     * A FAMILY and a SONG as one bit, so that all 32 pairs fit into an int and a whole set of
     * them is asked for, or let, by one mask. NONE as SONG gives the bits of all SONGS.
     */
    private static int askedBy(int family, int song) {
        if (song != NONE) {
            return 1 << (song * FAMILIES + family);
        }
        int all = 0;
        for (int i = 0; i < SONGS; i++) {
            all |= 1 << (i * FAMILIES + family);
        }
        return all;
    }

    // ---- copies

    public int copy(int a, int b) {
        if (!isSide(a) || (b != NONE && !isSide(b))) {
            return UNKNOWN;
        }
        if (stepsUp(b, a) != NONE) {
            return STATE;
        }
        int before = sides[a].copyOf;
        sides[a].copyOf = b;
        return before;
    }

    public int copies(int side) {
        if (!isSide(side)) {
            return UNKNOWN;
        }
        int set = 0;
        for (int i = 0; i < sideCount; i++) {
            if (stepsUp(i, side) != NONE) {
                set |= 1 << i;
            }
        }
        return set;
    }

    public int clearest(int side) {
        if (!isSide(side)) {
            return UNKNOWN;
        }
        int clearest = side;
        int fewest = 0;
        for (int i = 0; i < sideCount; i++) {
            int steps = stepsUp(i, side);
            if (steps == NONE) {
                continue;
            }
            int more = sides[i].sound - sides[clearest].sound;
            if (more > 0 || (more == 0 && steps < fewest)) {
                clearest = i;
                fewest = steps;
            }
        }
        return clearest;
    }

    public int total(int what) {
        switch (what) {
            case 0: return sideCount;
            case 1: return year;
            case 2: return signs.countLive();
            case 3: return puzzle.count;
            case 4: return texts.count;
            case 5: return allSound();
            default: return BAD;
        }
    }

    /** How often one goes from a COPY to what it is a COPY of until one meets the other: 0 for itself. */
    private int stepsUp(int from, int to) {
        int at = from;
        // a chain is never longer than there are SIDES, since none is a COPY of itself
        for (int steps = 0; steps < sideCount && isSide(at); steps++) {
            if (at == to) {
                return steps;
            }
            at = sides[at].copyOf;
        }
        return NONE;
    }

    private int allSound() {
        int sum = 0;
        for (int i = 0; i < sideCount; i++) {
            sum += sides[i].sound;
        }
        return sum;
    }

    // ---- what is known

    private boolean isSide(int n) {
        return n >= 0 && n < sideCount;
    }

    private boolean isSetOfSides(int set) {
        return (set & ~((1 << sideCount) - 1)) == 0;
    }

    private static boolean isFamily(int n) {
        return within(n, 0, FAMILIES - 1);
    }

    private static boolean isSong(int n) {
        return within(n, 0, SONGS - 1);
    }

    private static boolean isHearer(int n) {
        return within(n, 0, HEARERS - 1);
    }

    private static boolean isDay(int n) {
        return within(n, 0, LAST_DAY);
    }

    private static boolean within(int n, int low, int high) {
        return n >= low && n <= high;
    }

    private static boolean holds(int set, int n) {
        return (set & (1 << n)) != 0;
    }

    /** A SIDE as it is in THE YEAR. */
    private static final class Side {
        final int worth;
        final int wear;
        final int rot;
        int sound;
        int lightHours;
        int needleHours;
        int plays;
        int latestReading;
        int copyOf;
        int families;
        int song;

        Side(int worth, int sound, int wear, int rot) {
            this.worth = worth;
            this.sound = sound;
            this.wear = wear;
            this.rot = rot;
            lightHours = 10;
            needleHours = 5;
            plays = 0;
            latestReading = NONE;
            copyOf = NONE;
            families = 0;
            song = 0;
        }

        void lose(int much) {
            sound = Math.max(0, sound - much);
        }

        int savedIn(int yearsOn, boolean byNeedle) {
            int lost = rot * yearsOn + (byNeedle ? wear : 0);
            return worth * Math.max(0, sound - lost);
        }

        int asked() {
            return families << (song * FAMILIES);
        }

        boolean isLetBy(int let) {
            return (asked() & ~let) == 0;
        }
    }

    /**
     * Finds THE BEST PLAN. The SIDES of a PLAN have places 0 .. 5 by number; an OPTION is twice
     * the year, and 1 by NEEDLE. Years share no hours, so each set of SIDES is weighed for a year
     * alone and the years are then joined: far fewer steps than all PLANS one by one.
     */
    private static final class Planner {
        static final int MOST_PLACES = 6;
        static final int MOST_YEARS = 3;
        static final int MOST_HOURS = 3000;
        static final int MOST_SAVED = 600000;

        private static final int SETS = 1 << MOST_PLACES;
        private static final int TOO_LONG = -1;
        // the greatest power of two up to MOST_HOURS, where the search for hours begins
        private static final int FIRST_STRIDE = 2048;

        private int places;
        private int years;
        private final int[] lightHours;
        private final int[] needleHours;
        private final int[][] saves;
        private final int[] hoursLeft;

        // sums over sets of places, bit 0 being the first place that is still open
        private final int[] setLightHours;
        private final int[] setNeedleHours;
        private final int[] setLightSaves;
        private final int[] setNeedleSaves;
        private final int[] inOneYear;
        private final int[] most;

        Planner() {
            places = 0;
            years = 0;
            lightHours = new int[MOST_PLACES];
            needleHours = new int[MOST_PLACES];
            saves = new int[2 * MOST_YEARS][MOST_PLACES];
            hoursLeft = new int[MOST_YEARS];
            setLightHours = new int[SETS];
            setNeedleHours = new int[SETS];
            setLightSaves = new int[SETS];
            setNeedleSaves = new int[SETS];
            inOneYear = new int[SETS];
            most = new int[SETS];
        }

        void begin(int planYears) {
            places = 0;
            years = Math.min(planYears, MOST_YEARS);
        }

        void take(Side side) {
            if (places >= MOST_PLACES) {
                return;
            }
            lightHours[places] = side.lightHours;
            needleHours[places] = side.needleHours;
            for (int y = 0; y < years; y++) {
                saves[2 * y][places] = side.savedIn(y, false);
                saves[2 * y + 1][places] = side.savedIn(y, true);
            }
            places++;
        }

        int mostWith(int hours) {
            Arrays.fill(hoursLeft, hours);
            return mostFrom(0);
        }

        /** More hours never save less, so the hours that are too few are found by halving strides. */
        int leastHours(int goal) {
            int tooFew = -1;
            for (int stride = FIRST_STRIDE; stride > 0; stride /= 2) {
                int tried = tooFew + stride;
                if (tried <= MOST_HOURS && mostWith(tried) < goal) {
                    tooFew = tried;
                }
            }
            return tooFew < MOST_HOURS ? tooFew + 1 : NONE;
        }

        /** What THE BEST PLAN does at a place: all places ahead of it are settled first, in order. */
        int optionAt(int place, int hours) {
            int goal = mostWith(hours);
            int option = NONE;
            for (int p = 0; p <= place && p < places; p++) {
                option = firstOption(p, goal);
                if (option != NONE) {
                    hoursLeft[option / 2] -= hoursFor(option, p);
                    goal -= saves[option][p];
                }
            }
            return option;
        }

        /** The first OPTION with which this place and those behind it still reach the goal. */
        private int firstOption(int place, int goal) {
            for (int option = 0; option < 2 * years; option++) {
                int hours = hoursFor(option, place);
                int y = option / 2;
                if (hours > hoursLeft[y]) {
                    continue;
                }
                hoursLeft[y] -= hours;
                int reached = saves[option][place] + mostFrom(place + 1);
                hoursLeft[y] += hours;
                if (reached == goal) {
                    return option;
                }
            }
            return NONE;
        }

        private int hoursFor(int option, int place) {
            return option % 2 == 0 ? lightHours[place] : needleHours[place];
        }

        /** The most that the places from one on save in the hours that are left in each year. */
        private int mostFrom(int first) {
            int sets = 1 << (places - first);
            addUp(lightHours, first, setLightHours);
            addUp(needleHours, first, setNeedleHours);
            Arrays.fill(most, 0);
            for (int y = 0; y < years; y++) {
                addUp(saves[2 * y], first, setLightSaves);
                addUp(saves[2 * y + 1], first, setNeedleSaves);
                for (int set = 1; set < sets; set++) {
                    inOneYear[set] = savedTogether(set, hoursLeft[y]);
                }
                joinYear(sets);
            }
            return most[sets - 1];
        }

        private void addUp(int[] each, int first, int[] sums) {
            sums[0] = 0;
            for (int p = first; p < places; p++) {
                int bit = 1 << (p - first);
                for (int set = 0; set < bit; set++) {
                    sums[set + bit] = sums[set] + each[p];
                }
            }
        }

        /** The most that a set saves if all of it is READ in one year. */
        private int savedTogether(int set, int hours) {
            int best = setLightHours[set] <= hours ? setLightSaves[set] : TOO_LONG;
            for (int played = set; played > 0; played = (played - 1) & set) {
                int lit = set ^ played;
                if (setNeedleHours[played] + setLightHours[lit] <= hours) {
                    best = Math.max(best, setNeedleSaves[played] + setLightSaves[lit]);
                }
            }
            return best;
        }

        private void joinYear(int sets) {
            // from the greatest set down: the smaller ones that it looks at lack this year still
            for (int set = sets - 1; set > 0; set--) {
                int best = most[set];
                for (int part = set; part > 0; part = (part - 1) & set) {
                    if (inOneYear[part] != TOO_LONG) {
                        best = Math.max(best, most[set ^ part] + inOneYear[part]);
                    }
                }
                most[set] = best;
            }
        }
    }

    /** A SIGN of a SIDE's speed. */
    private static final class Sign {
        final int side;
        final int low;
        final int high;
        final int weight;
        boolean live;

        Sign(int side, int low, int high, int weight) {
            this.side = side;
            this.low = low;
            this.high = high;
            this.weight = weight;
            live = true;
        }

        boolean isOf(int oneSide) {
            return live && side == oneSide;
        }

        boolean isApartFrom(Sign other) {
            return high < other.low || other.high < low;
        }
    }

    /** All SIGNS. They weigh more only where one begins, less only where one has ended: just there is tried. */
    private static final class SignBook {
        static final int MOST_SPEED = 30000;
        static final int MOST_WEIGHT = 9;

        private static final int MOST_SIGNS = 60;

        private final Sign[] signs;
        private int count;

        SignBook() {
            signs = new Sign[MOST_SIGNS];
            count = 0;
        }

        boolean isFull() {
            return count >= MOST_SIGNS;
        }

        boolean has(int number) {
            return number >= 0 && number < count;
        }

        int add(Sign sign) {
            signs[count] = sign;
            count++;
            return count - 1;
        }

        boolean takeOut(int number) {
            boolean was = signs[number].live;
            signs[number].live = false;
            return was;
        }

        int countLive() {
            int live = 0;
            for (int i = 0; i < count; i++) {
                if (signs[i].live) {
                    live++;
                }
            }
            return live;
        }

        int weightAt(int side, int speed) {
            int sum = 0;
            for (int i = 0; i < count; i++) {
                Sign s = signs[i];
                if (s.isOf(side) && s.low <= speed && speed <= s.high) {
                    sum += s.weight;
                }
            }
            return sum;
        }

        int leastHeaviest(int side) {
            int least = NONE;
            int heaviest = 0;
            for (int i = 0; i < count; i++) {
                if (!signs[i].isOf(side)) {
                    continue;
                }
                int low = signs[i].low;
                int weight = weightAt(side, low);
                if (weight > heaviest || (weight == heaviest && low < least)) {
                    least = low;
                    heaviest = weight;
                }
            }
            return least;
        }

        int lastHeaviest(int side) {
            int first = leastHeaviest(side);
            if (first == NONE) {
                return NONE;
            }
            int weight = weightAt(side, first);
            int last = MOST_SPEED;
            // nothing weighs more than this, so THE SPAN can only end where a SIGN does
            for (int i = 0; i < count; i++) {
                int high = signs[i].high;
                boolean endsHere = signs[i].isOf(side) && high >= first && high < last;
                if (endsHere && weightAt(side, high + 1) != weight) {
                    last = high;
                }
            }
            return last;
        }

        int pairsApart(int side) {
            int pairs = 0;
            for (int i = 0; i < count; i++) {
                for (int j = 0; j < i && signs[i].isOf(side); j++) {
                    if (signs[j].isOf(side) && signs[i].isApartFrom(signs[j])) {
                        pairs++;
                    }
                }
            }
            return pairs;
        }
    }

    /** The PIECES of a broken one. */
    private static final class Puzzle {
        static final int LAST_GROOVE = 99;

        private static final int MOST_PIECES = 7;
        private static final int CELLS = (1 << MOST_PIECES) * MOST_PIECES;

        int mostApart;
        int count;
        private final int[] left;
        private final int[] right;

        // by the set of PIECES laid so far and the last of them: in how many ways the others
        // can follow, and with what MISFIT at least
        private final int[] ways;
        private final int[] least;

        Puzzle() {
            mostApart = 0;
            count = 0;
            left = new int[MOST_PIECES];
            right = new int[MOST_PIECES];
            ways = new int[CELLS];
            least = new int[CELLS];
        }

        boolean isFull() {
            return count >= MOST_PIECES;
        }

        int add(int leftEdge, int rightEdge) {
            left[count] = leftEdge;
            right[count] = rightEdge;
            count++;
            return count - 1;
        }

        int clear() {
            int before = count;
            count = 0;
            return before;
        }

        int countRows() {
            weighAll();
            int sum = 0;
            for (int p = 0; p < count; p++) {
                sum += ways[cell(1 << p, p)];
            }
            return sum;
        }

        int leastMisfit() {
            int first = firstPiece();
            return first == NONE ? NONE : least[cell(1 << first, first)];
        }

        int pieceAt(int place) {
            int piece = firstPiece();
            if (piece == NONE || place < 0 || place >= count) {
                return NONE;
            }
            int laid = 0;
            for (int i = 0; i < place && piece != NONE; i++) {
                laid |= 1 << piece;
                piece = nextPiece(laid, piece);
            }
            return piece;
        }

        private int firstPiece() {
            weighAll();
            int first = NONE;
            int best = NONE;
            for (int p = 0; p < count; p++) {
                int misfit = least[cell(1 << p, p)];
                if (misfit != NONE && (first == NONE || misfit < best)) {
                    first = p;
                    best = misfit;
                }
            }
            return first;
        }

        private int nextPiece(int laid, int last) {
            for (int p = 0; p < count; p++) {
                if (canFollow(laid, last, p)
                        && least[cell(laid | 1 << p, p)] != NONE
                        && gap(last, p) + least[cell(laid | 1 << p, p)] == least[cell(laid, last)]) {
                    return p;
                }
            }
            return NONE;
        }

        private void weighAll() {
            int all = (1 << count) - 1;
            // from the full set down: what is laid next has been weighed then
            for (int laid = all; laid > 0; laid--) {
                for (int last = 0; last < count; last++) {
                    if (holds(laid, last)) {
                        weigh(laid, last, laid == all);
                    }
                }
            }
        }

        private void weigh(int laid, int last, boolean done) {
            int sum = done ? 1 : 0;
            int best = done ? 0 : NONE;
            for (int p = 0; p < count; p++) {
                if (!canFollow(laid, last, p)) {
                    continue;
                }
                int next = cell(laid | 1 << p, p);
                sum += ways[next];
                if (least[next] != NONE && (best == NONE || gap(last, p) + least[next] < best)) {
                    best = gap(last, p) + least[next];
                }
            }
            ways[cell(laid, last)] = sum;
            least[cell(laid, last)] = best;
        }

        private boolean canFollow(int laid, int last, int next) {
            return !holds(laid, next) && gap(last, next) <= mostApart;
        }

        private int gap(int piece, int next) {
            return Math.abs(right[piece] - left[next]);
        }

        private static int cell(int laid, int last) {
            return laid * MOST_PIECES + last;
        }
    }

    /** A TEXT; the pairs of FAMILY and SONG that it is for are a mask. */
    private static final class Text {
        final int number;
        final int pairs;
        final int hearer;
        final int day;
        final boolean lets;

        Text(int number, int pairs, int hearer, int day, boolean lets) {
            this.number = number;
            this.pairs = pairs;
            this.hearer = hearer;
            this.day = day;
            this.lets = lets;
        }

        boolean isFor(int oneHearer) {
            return hearer == NONE || hearer == oneHearer;
        }

        int letAfter(int letBefore) {
            return lets ? letBefore | pairs : letBefore & ~pairs;
        }
    }

    /**
     * All TEXTS, by DAY and of one DAY by number: so each overrules those ahead of it, and what
     * is LET on a DAY is what they leave one after the other.
     */
    private static final class TextBook {
        private static final int MOST_TEXTS = 60;

        private final Text[] byDay;
        int count;

        TextBook() {
            byDay = new Text[MOST_TEXTS];
            count = 0;
        }

        boolean isFull() {
            return count >= MOST_TEXTS;
        }

        int add(int pairs, int hearer, int day, boolean lets) {
            int at = count;
            while (at > 0 && byDay[at - 1].day > day) {
                byDay[at] = byDay[at - 1];
                at--;
            }
            byDay[at] = new Text(count, pairs, hearer, day, lets);
            count++;
            return count - 1;
        }

        int latestFor(int pair, int hearer, int day) {
            int latest = NONE;
            for (int i = 0; i < count && byDay[i].day <= day; i++) {
                if ((byDay[i].pairs & pair) != 0 && byDay[i].isFor(hearer)) {
                    latest = byDay[i].number;
                }
            }
            return latest;
        }

        int letOn(int hearer, int day) {
            int let = 0;
            for (int i = 0; i < count && byDay[i].day <= day; i++) {
                if (byDay[i].isFor(hearer)) {
                    let = byDay[i].letAfter(let);
                }
            }
            return let;
        }

        /** Between the DAYS of two TEXTS nothing changes, so days are counted by such stretches. */
        int daysThatLet(int asked, int hearer, int from, int to) {
            int let = 0;
            int start = from;
            int good = 0;
            for (int i = 0; i < count && byDay[i].day <= to; i++) {
                Text t = byDay[i];
                if (t.day > start) {
                    good += (asked & ~let) == 0 ? t.day - start : 0;
                    start = t.day;
                }
                if (t.isFor(hearer)) {
                    let = t.letAfter(let);
                }
            }
            return good + ((asked & ~let) == 0 ? to - start + 1 : 0);
        }
    }
}
