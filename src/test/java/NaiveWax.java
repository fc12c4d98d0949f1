import java.util.ArrayList;
import java.util.List;

/**
 * The document's words put down as slowly and plainly as can be, to compare WaxVoices with: every
 * plan, every speed, every row and every day is tried one by one. Only calls that look for
 * something are here in full; refusals are written out once more from the document.
 */
final class NaiveWax {
    static final int UNKNOWN = -1, BAD = -2, STATE = -3, FULL = -4, NONE = -9;

    static final class S {
        int worth, first, wear, rot, born, light = 10, needle = 5, plays, latest = NONE, of = NONE, families, song;
    }

    final List<S> sides = new ArrayList<>();
    final List<int[]> signs = new ArrayList<>();
    final List<int[]> pieces = new ArrayList<>();
    final List<int[]> texts = new ArrayList<>();
    int year;
    int tolerance;

    int sound(S s) {
        return Math.max(0, s.first - s.plays * s.wear - (year - s.born) * s.rot);
    }

    boolean no(int side) {
        return side < 0 || side >= sides.size();
    }

    boolean noSet(int set) {
        for (int i = 0; i < 32; i++) {
            if ((set >>> i & 1) == 1 && no(i)) return true;
        }
        return false;
    }

    static boolean out(int n, int low, int high) {
        return n < low || n > high;
    }

    int side(int worth, int sound, int wear, int rot) {
        if (out(worth, 0, 1000) || out(sound, 0, 100) || out(wear, 0, 100) || out(rot, 0, 100)) return BAD;
        if (sides.size() == 16) return FULL;
        S s = new S();
        s.worth = worth;
        s.first = sound;
        s.wear = wear;
        s.rot = rot;
        s.born = year;
        sides.add(s);
        return sides.size() - 1;
    }

    int hours(int side, int light, int needle) {
        if (no(side)) return UNKNOWN;
        if (out(light, 1, 1000) || out(needle, 1, 1000)) return BAD;
        sides.get(side).light = light;
        sides.get(side).needle = needle;
        return 1;
    }

    int told(int side, int what) {
        if (no(side)) return UNKNOWN;
        if (out(what, 0, 8)) return BAD;
        S s = sides.get(side);
        return new int[] {s.worth, sound(s), s.wear, s.rot, s.light, s.needle, s.plays, s.latest, s.of}[what];
    }

    int read(int side, boolean needle) {
        if (no(side)) return UNKNOWN;
        S s = sides.get(side);
        if (sound(s) == 0) return STATE;
        if (needle) s.plays++;
        s.latest = year;
        return sound(s);
    }

    int pass(int n) {
        if (out(n, 1, 100)) return BAD;
        if (year + n > 1000) return FULL;
        return year += n;
    }

    // ---- plans: each one as a row of options, in the order in which like ones are preferred

    private int planSaves;
    private int[] planOptions;
    private int planHours;

    /** Tries all plans; keeps the first of the best within the hours, and the least hours for a goal. */
    private void tryPlans(List<S> of, int years, int hours, int goal) {
        planSaves = -1;
        planHours = Integer.MAX_VALUE;
        int options = 2 * years + 1;
        int[] plan = new int[of.size()];
        long plans = 1;
        for (int i = 0; i < plan.length; i++) plans *= options;
        for (long n = 0; n < plans; n++) {
            long rest = n;
            for (int i = plan.length - 1; i >= 0; i--) {
                plan[i] = (int) (rest % options);
                rest /= options;
            }
            tryPlan(of, years, hours, goal, plan);
        }
    }

    private void tryPlan(List<S> of, int years, int hours, int goal, int[] plan) {
        int[] used = new int[years];
        int saved = 0;
        for (int i = 0; i < plan.length; i++) {
            if (plan[i] == 2 * years) continue;
            S s = of.get(i);
            boolean needle = plan[i] % 2 == 1;
            used[plan[i] / 2] += needle ? s.needle : s.light;
            saved += s.worth * Math.max(0, sound(s) - s.rot * (plan[i] / 2) - (needle ? s.wear : 0));
        }
        int most = 0;
        for (int u : used) most = Math.max(most, u);
        if (most <= hours && saved > planSaves) {
            planSaves = saved;
            planOptions = plan.clone();
        }
        if (saved >= goal) planHours = Math.min(planHours, most);
    }

    private List<S> chosen(int set) {
        List<S> of = new ArrayList<>();
        for (int i = 0; i < sides.size(); i++) {
            if ((set >> i & 1) == 1) of.add(sides.get(i));
        }
        return of;
    }

    private int planRefused(int set, int years, int n, int most) {
        if (noSet(set)) return UNKNOWN;
        return chosen(set).size() > 6 || out(years, 1, 3) || out(n, 0, most) ? BAD : 0;
    }

    int best(int set, int years, int hours) {
        int refused = planRefused(set, years, hours, 3000);
        if (refused != 0) return refused;
        tryPlans(chosen(set), years, hours, 0);
        return planSaves;
    }

    int does(int set, int years, int hours, int side) {
        int refused = planRefused(set, years, hours, 3000);
        if (refused != 0) return refused;
        if (no(side)) return UNKNOWN;
        int at = chosen(set).indexOf(sides.get(side));
        if (at < 0) return NONE;
        tryPlans(chosen(set), years, hours, 0);
        return planOptions[at] == 2 * years ? NONE : planOptions[at];
    }

    int needed(int set, int years, int saves) {
        int refused = planRefused(set, years, saves, 600000);
        if (refused != 0) return refused;
        tryPlans(chosen(set), years, 3000, saves);
        return planHours > 3000 ? NONE : planHours;
    }

    // ---- speeds

    int sign(int side, int low, int high, int weight) {
        if (no(side)) return UNKNOWN;
        if (low < 1 || low > high || high > 30000 || out(weight, 1, 9)) return BAD;
        if (signs.size() == 60) return FULL;
        signs.add(new int[] {side, low, high, weight});
        return signs.size() - 1;
    }

    int drop(int sign) {
        if (sign < 0 || sign >= signs.size()) return UNKNOWN;
        if (signs.get(sign)[0] < 0) return STATE;
        signs.get(sign)[0] = -1;
        return 1;
    }

    private int[] weights(int side) {
        int[] at = new int[30002];
        for (int[] s : signs) {
            for (int v = s[1]; v <= s[2] && s[0] == side; v++) at[v] += s[3];
        }
        return at;
    }

    int speed(int side) {
        if (no(side)) return UNKNOWN;
        int[] at = weights(side);
        int best = 0;
        for (int v = 1; v <= 30000; v++) {
            if (at[v] > at[best]) best = v;
        }
        return best == 0 ? NONE : best;
    }

    int span(int side) {
        int v = speed(side);
        if (v < 0) return v;
        int[] at = weights(side);
        while (at[v + 1] == at[v]) v++;
        return v;
    }

    int weighs(int side, int speed) {
        if (no(side)) return UNKNOWN;
        return out(speed, 1, 30000) ? BAD : weights(side)[speed];
    }

    int quarrels(int side) {
        if (no(side)) return UNKNOWN;
        int pairs = 0;
        for (int[] a : signs) {
            for (int[] b : signs) {
                // each pair is met once with a below b
                if (a[0] == side && b[0] == side && a[2] < b[1]) pairs++;
            }
        }
        return pairs;
    }

    // ---- pieces

    private int rowCount;
    private int rowMisfit;
    private int[] rowFirst;

    int piece(int left, int right) {
        if (out(left, 0, 99) || out(right, 0, 99)) return BAD;
        if (pieces.size() == 7) return FULL;
        pieces.add(new int[] {left, right});
        return pieces.size() - 1;
    }

    int sweep() {
        int before = pieces.size();
        pieces.clear();
        return before;
    }

    int tolerance(int n) {
        if (out(n, 0, 99)) return BAD;
        int before = tolerance;
        tolerance = n;
        return before;
    }

    private void tryRows() {
        rowCount = 0;
        rowMisfit = NONE;
        rowFirst = new int[0];
        if (!pieces.isEmpty()) lay(new int[pieces.size()], 0, 0);
    }

    private void lay(int[] row, int placed, int misfit) {
        if (placed == row.length) {
            rowCount++;
            if (rowMisfit == NONE || misfit < rowMisfit) {
                rowMisfit = misfit;
                rowFirst = row.clone();
            }
            return;
        }
        next:
        for (int p = 0; p < row.length; p++) {
            for (int i = 0; i < placed; i++) {
                if (row[i] == p) continue next;
            }
            int gap = placed == 0 ? 0 : Math.abs(pieces.get(row[placed - 1])[1] - pieces.get(p)[0]);
            if (gap <= tolerance) {
                row[placed] = p;
                lay(row, placed + 1, misfit + gap);
            }
        }
    }

    int rows() {
        tryRows();
        return rowCount;
    }

    int misfit() {
        tryRows();
        return rowMisfit;
    }

    int inRow(int place) {
        tryRows();
        return out(place, 0, rowFirst.length - 1) ? NONE : rowFirst[place];
    }

    // ---- texts

    int sung(int side, int families, int song) {
        if (no(side) || out(song, 0, 3)) return UNKNOWN;
        if (out(families, 0, 255)) return BAD;
        int before = sides.get(side).families;
        sides.get(side).families = families;
        sides.get(side).song = song;
        return before;
    }

    int text(int family, int song, int hearer, int day, boolean lets) {
        if (out(family, 0, 7) || song != NONE && out(song, 0, 3) || hearer != NONE && out(hearer, 0, 5)) return UNKNOWN;
        if (out(day, 0, 9999)) return BAD;
        if (texts.size() == 60) return FULL;
        texts.add(new int[] {family, song, hearer, day, lets ? 1 : 0});
        return texts.size() - 1;
    }

    private int counting(int family, int song, int hearer, int day) {
        int best = NONE;
        for (int i = 0; i < texts.size(); i++) {
            int[] t = texts.get(i);
            if (t[0] == family && (t[1] == NONE || t[1] == song) && (t[2] == NONE || t[2] == hearer) && t[3] <= day
                    && (best == NONE || t[3] >= texts.get(best)[3])) {
                best = i;
            }
        }
        return best;
    }

    int counts(int family, int song, int hearer, int day) {
        if (out(family, 0, 7) || out(song, 0, 3) || out(hearer, 0, 5)) return UNKNOWN;
        return out(day, 0, 9999) ? BAD : counting(family, song, hearer, day);
    }

    int may(int side, int hearer, int day) {
        if (no(side) || out(hearer, 0, 5)) return UNKNOWN;
        if (out(day, 0, 9999)) return BAD;
        S s = sides.get(side);
        for (int f = 0; f < 8; f++) {
            if ((s.families >> f & 1) == 0) continue;
            int t = counting(f, s.song, hearer, day);
            if (t == NONE || texts.get(t)[4] == 0) return 0;
        }
        return 1;
    }

    int heard(int hearer, int day) {
        if (out(hearer, 0, 5)) return UNKNOWN;
        if (out(day, 0, 9999)) return BAD;
        int set = 0;
        for (int i = 0; i < sides.size(); i++) set |= may(i, hearer, day) << i;
        return set;
    }

    int days(int set, int hearer, int from, int to) {
        if (noSet(set) || out(hearer, 0, 5)) return UNKNOWN;
        if (out(from, 0, 9999) || out(to, 0, 9999) || to < from) return BAD;
        int good = 0;
        for (int day = from; day <= to; day++) {
            if ((set & ~heard(hearer, day)) == 0) good++;
        }
        return good;
    }

    // ---- copies

    /** How many steps it is from a side up to one that it is a copy of; NONE: it is none. */
    private int steps(int from, int to) {
        if (from == to) return 0;
        if (no(from)) return NONE;
        int more = steps(sides.get(from).of, to);
        return more == NONE ? NONE : more + 1;
    }

    int copy(int a, int b) {
        if (no(a) || b != NONE && no(b)) return UNKNOWN;
        if (steps(b, a) != NONE) return STATE;
        int before = sides.get(a).of;
        sides.get(a).of = b;
        return before;
    }

    int copies(int side) {
        if (no(side)) return UNKNOWN;
        int set = 0;
        for (int i = 0; i < sides.size(); i++) {
            if (steps(i, side) != NONE) set |= 1 << i;
        }
        return set;
    }

    int clearest(int side) {
        if (no(side)) return UNKNOWN;
        for (int sound = 100; sound >= 0; sound--) {
            for (int steps = 0; steps < 16; steps++) {
                for (int i = 0; i < sides.size(); i++) {
                    if (sound(sides.get(i)) == sound && steps(i, side) == steps) return i;
                }
            }
        }
        return NONE;
    }

    int total(int what) {
        int live = 0;
        for (int[] s : signs) live += s[0] < 0 ? 0 : 1;
        int sounds = 0;
        for (S s : sides) sounds += sound(s);
        if (out(what, 0, 5)) return BAD;
        return new int[] {sides.size(), year, live, pieces.size(), texts.size(), sounds}[what];
    }
}
