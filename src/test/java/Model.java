import java.util.ArrayDeque;
import java.util.ArrayList;
import java.util.Deque;
import java.util.HashMap;
import java.util.List;
import java.util.Map;
import java.util.regex.Matcher;
import java.util.regex.Pattern;

/**
 * The document once more, told as plainly and slowly as can be: cell by cell, all plans, all orders.
 * It shares no code and no way of thinking with TurretPunch, so that both are seldom wrong alike.
 */
final class Model {
    static final int BAD = -1, NO = -2, FULL = -3, NONE = -4;
    private static final Pattern ITEM =
            Pattern.compile("(sheet|tool|hole|clamp) (\\d\\d?(?:,\\d\\d?)*);");

    /** What a text tells of. */
    private static final class Told {
        int w, h;
        final List<int[]> tools = new ArrayList<>();
        final List<int[]> holes = new ArrayList<>();
        final List<Integer> clamps = new ArrayList<>();
    }

    /** What changes change. */
    private static final class Now {
        boolean[][] cut = new boolean[12][12];
        int[] worn = new int[6];
        int[] columns = new int[2];
        int here, hits, turns, moves;

        Now copy() {
            Now n = new Now();
            for (int x = 0; x < 12; x++) {
                n.cut[x] = cut[x].clone();
            }
            n.worn = worn.clone();
            n.columns = columns.clone();
            n.here = here;
            n.hits = hits;
            n.turns = turns;
            n.moves = moves;
            return n;
        }
    }

    private String text = "";
    private Told told;
    private Now now;
    private final Deque<Now> before = new ArrayDeque<>();

    Model() {
        text = "sheet 10,8;tool 2,2,0,40;tool 3,1,1,12;tool 1,1,0,99;"
                + "hole 1,1,4,2;hole 6,1,3,3;hole 2,5,1,3;hole 6,6,3,1;clamp 0;clamp 7;";
        lay();
        text = "";
    }

    // ---- told

    int write(int letter) {
        if (letter < 32 || letter > 126) {
            return BAD;
        }
        if (text.length() == 200) {
            return FULL;
        }
        text += (char) letter;
        return text.length();
    }

    int wipe() {
        int was = text.length();
        text = "";
        return was;
    }

    int fault() {
        return read(new Told());
    }

    int lay() {
        Told next = new Told();
        if (read(next) != NONE || next.w == 0 || next.tools.isEmpty()) {
            return NO;
        }
        told = next;
        now = new Now();
        for (int c = 0; c < told.clamps.size(); c++) {
            now.columns[c] = told.clamps.get(c);
        }
        before.clear();
        return told.tools.size();
    }

    private int read(Told into) {
        Matcher m = ITEM.matcher(text);
        int at = 0;
        while (at < text.length()) {
            m.region(at, text.length());
            if (!m.lookingAt() || !fits(into, m.group(1), m.group(2).split(","))) {
                return at;
            }
            at = m.end();
        }
        return NONE;
    }

    private static boolean fits(Told t, String word, String[] figures) {
        int[] n = new int[figures.length];
        for (int i = 0; i < n.length; i++) {
            n[i] = Integer.parseInt(figures[i]);
        }
        if (word.equals("sheet")) {
            if (n.length != 2 || t.w != 0 || n[0] < 3 || n[0] > 12 || n[1] < 3 || n[1] > 12) {
                return false;
            }
            t.w = n[0];
            t.h = n[1];
            return true;
        }
        if (t.w == 0) {
            return false;
        }
        switch (word) {
            case "tool":
                return n.length == 4 && t.tools.size() < 6 && n[0] >= 1 && n[0] <= 6 && n[1] >= 1
                        && n[1] <= 6 && n[2] <= 1 && n[3] >= 1 && t.tools.add(n);
            case "hole":
                return n.length == 4 && t.holes.size() < 5 && holeFits(t, n) && t.holes.add(n);
            default:
                return n.length == 1 && t.clamps.size() < 2 && n[0] + 1 < t.w && clampFits(t, n[0])
                        && t.clamps.add(n[0]);
        }
    }

    private static boolean holeFits(Told t, int[] n) {
        if (n[2] == 0 || n[3] == 0) {
            return false;
        }
        for (int x = n[0]; x < n[0] + n[2]; x++) {
            for (int y = n[1]; y < n[1] + n[3]; y++) {
                if (x >= t.w || y >= t.h || holeOf(t, x, y) != NONE) {
                    return false;
                }
            }
        }
        return true;
    }

    private static boolean clampFits(Told t, int column) {
        for (int other : t.clamps) {
            if (other == column || other + 1 == column || other == column + 1) {
                return false;
            }
        }
        return true;
    }

    private static int holeOf(Told t, int x, int y) {
        for (int k = 0; k < t.holes.size(); k++) {
            int[] o = t.holes.get(k);
            if (x >= o[0] && x < o[0] + o[2] && y >= o[1] && y < o[1] + o[3]) {
                return k;
            }
        }
        return NONE;
    }

    // ---- what is done

    private boolean badHit(int s, int x, int y, int turned) {
        return s < 0 || s >= told.tools.size() || x < 0 || x > 99 || y < 0 || y > 99
                || turned < 0 || turned > 1;
    }

    int why(int s, int x, int y, int turned) {
        return badHit(s, x, y, turned) ? BAD : reason(now, s, x, y, turned);
    }

    private List<int[]> cellsOf(int s, int x, int y, int turned) {
        int[] tool = told.tools.get(s);
        List<int[]> cells = new ArrayList<>();
        for (int j = 0; j < tool[1 - turned]; j++) {
            for (int i = 0; i < tool[turned]; i++) {
                cells.add(new int[] {x + i, y + j});
            }
        }
        return cells;
    }

    private int reason(Now n, int s, int x, int y, int turned) {
        if (turned == 1 && told.tools.get(s)[2] == 0) {
            return 1;
        }
        List<int[]> cells = cellsOf(s, x, y, turned);
        for (int[] c : cells) {
            if (c[0] >= told.w || c[1] >= told.h) {
                return 2;
            }
        }
        for (int[] c : cells) {
            int k = holeOf(told, c[0], c[1]);
            if (k == NONE || k != holeOf(told, x, y)) {
                return 3;
            }
        }
        boolean all = true;
        for (int[] c : cells) {
            if (clampOf(n, c[0], c[1]) != NONE) {
                return 4;
            }
            all &= n.cut[c[0]][c[1]];
        }
        if (all) {
            return 5;
        }
        return n.worn[s] == told.tools.get(s)[3] ? 6 : 0;
    }

    private int clampOf(Now n, int x, int y) {
        for (int c = 0; c < told.clamps.size(); c++) {
            if (y == told.h - 1 && (x == n.columns[c] || x == n.columns[c] + 1)) {
                return c;
            }
        }
        return NONE;
    }

    int hit(int s, int x, int y, int turned) {
        if (badHit(s, x, y, turned)) {
            return BAD;
        }
        if (reason(now, s, x, y, turned) != 0) {
            return NO;
        }
        remember();
        return strike(now, s, x, y, turned);
    }

    private int strike(Now n, int s, int x, int y, int turned) {
        int fresh = 0;
        for (int[] c : cellsOf(s, x, y, turned)) {
            fresh += n.cut[c[0]][c[1]] ? 0 : 1;
            n.cut[c[0]][c[1]] = true;
        }
        n.worn[s]++;
        n.hits++;
        n.turns += way(n.here, s);
        n.here = s;
        return fresh;
    }

    /** Walks round both ways and takes the shorter. */
    private int way(int from, int to) {
        int size = told.tools.size();
        int up = 0;
        for (int s = from; s != to; s = (s + 1) % size) {
            up++;
        }
        int down = 0;
        for (int s = from; s != to; s = (s + size - 1) % size) {
            down++;
        }
        return Math.min(up, down);
    }

    private void remember() {
        before.push(now.copy());
        if (before.size() > 6) {
            before.removeLast();
        }
    }

    int nibble(int k, int s, int turned) {
        if (k < 0 || k >= told.holes.size() || s < 0 || s >= told.tools.size() || turned < 0
                || turned > 1) {
            return BAD;
        }
        if (left(k) == 0) {
            return NO;
        }
        List<int[]> places = places(k, s, turned);
        if (places == null) {
            return NO;
        }
        Now next = now.copy();
        int made = 0;
        for (int[] p : places) {
            boolean all = true;
            for (int[] c : cellsOf(s, p[0], p[1], turned)) {
                all &= next.cut[c[0]][c[1]];
            }
            if (all) {
                continue;
            }
            if (reason(next, s, p[0], p[1], turned) != 0) {
                return NO;
            }
            strike(next, s, p[0], p[1], turned);
            made++;
        }
        remember();
        now = next;
        return made;
    }

    /** Where a hole is hit, in order; null if it can not be nibbled so. */
    private List<int[]> places(int k, int s, int turned) {
        int[] hole = told.holes.get(k);
        int[] tool = told.tools.get(s);
        int w = tool[turned];
        int h = tool[1 - turned];
        if (turned == 1 && tool[2] == 0 || w > hole[2] || h > hole[3]) {
            return null;
        }
        List<int[]> places = new ArrayList<>();
        for (int y : starts(hole[1], hole[3], h)) {
            for (int x : starts(hole[0], hole[2], w)) {
                places.add(new int[] {x, y});
            }
        }
        return places;
    }

    private static List<Integer> starts(int from, int length, int size) {
        List<Integer> starts = new ArrayList<>();
        int at = from;
        while (at < from + length) {
            if (at + size > from + length) {
                starts.add(from + length - size);
            } else {
                starts.add(at);
            }
            at += size;
        }
        return starts;
    }

    int clamp(int c, int column) {
        if (c < 0 || c >= told.clamps.size() || column < 0 || column > told.w - 2) {
            return BAD;
        }
        int was = now.columns[c];
        boolean meets = told.clamps.size() == 2 && Math.abs(now.columns[1 - c] - column) < 2;
        if (was == column || meets) {
            return NO;
        }
        remember();
        now.columns[c] = column;
        now.moves++;
        return was;
    }

    int sharpen(int s) {
        if (s < 0 || s >= told.tools.size()) {
            return BAD;
        }
        int was = now.worn[s];
        if (was == 0) {
            return NO;
        }
        remember();
        now.worn[s] = 0;
        return was;
    }

    int undo() {
        if (before.isEmpty()) {
            return NO;
        }
        now = before.pop();
        return before.size();
    }

    // ---- looked at

    int station(int s, int what) {
        if (s < 0 || s >= told.tools.size() || what < 0 || what > 6) {
            return BAD;
        }
        if (what < 4) {
            return told.tools.get(s)[what];
        }
        if (what == 4) {
            return now.worn[s];
        }
        return what == 5 ? (now.worn[s] == told.tools.get(s)[3] ? 1 : 0) : way(now.here, s);
    }

    private int left(int k) {
        int left = 0;
        for (int x = 0; x < told.w; x++) {
            for (int y = 0; y < told.h; y++) {
                left += holeOf(told, x, y) == k && !now.cut[x][y] ? 1 : 0;
            }
        }
        return left;
    }

    int hole(int k, int what) {
        if (k < 0 || k >= told.holes.size() || what < 0 || what > 5) {
            return BAD;
        }
        if (what < 4) {
            return told.holes.get(k)[what];
        }
        return what == 4 ? left(k) : left(k) == 0 ? 1 : 0;
    }

    int hits(int k, int s, int turned) {
        if (k < 0 || k >= told.holes.size() || s < 0 || s >= told.tools.size() || turned < 0
                || turned > 1) {
            return BAD;
        }
        List<int[]> places = places(k, s, turned);
        return places == null ? NONE : places.size();
    }

    int cell(int x, int y, int what) {
        if (x < 0 || x >= told.w || y < 0 || y >= told.h || what < 0 || what > 2) {
            return BAD;
        }
        return what == 0 ? (now.cut[x][y] ? 1 : 0) : what == 1 ? holeOf(told, x, y) : clampOf(now, x, y);
    }

    int column(int c) {
        return c < 0 || c >= told.clamps.size() ? BAD : now.columns[c];
    }

    // ---- the plan

    int plan(int k) {
        if (k < -2 || k >= told.holes.size()) {
            return BAD;
        }
        int[] plan = bestPlan();
        if (plan == null) {
            return NONE;
        }
        return k == -1 ? plan[5] : k == -2 ? plan[6] : plan[k];
    }

    /** All plans in the order of the document; the first of the best: its ways, hits and turns. */
    private int[] bestPlan() {
        int[] best = null;
        int holes = told.holes.size();
        int ways = 2 * told.tools.size();
        Map<Integer, Integer> turnsTo = new HashMap<>();
        int[][] hits = new int[holes][ways];
        boolean[] done = new boolean[holes];
        int plans = 1;
        for (int k = 0; k < holes; k++) {
            done[k] = left(k) == 0;
            plans *= done[k] ? 1 : ways;
            for (int i = 0; i < ways; i++) {
                hits[k][i] = hits(k, i / 2, i % 2);
            }
        }
        for (int number = 0; number < plans; number++) {
            int[] plan = new int[7];
            int used = 0;
            boolean can = true;
            int rest = number;
            for (int k = holes - 1; k >= 0; k--) {
                plan[k] = NONE;
                if (!done[k]) {
                    plan[k] = rest % ways;
                    rest /= ways;
                    can &= hits[k][plan[k]] != NONE;
                    plan[5] += hits[k][plan[k]];
                    used |= 1 << plan[k] / 2;
                }
            }
            if (!can) {
                continue;
            }
            plan[6] = turnsTo.computeIfAbsent(used, u -> fewestTurns(now.here, u));
            if (best == null || plan[5] + plan[6] < best[5] + best[6]
                    || plan[5] + plan[6] == best[5] + best[6] && plan[6] < best[6]) {
                best = plan;
            }
        }
        return best;
    }

    /** Every order is tried. */
    private int fewestTurns(int here, int used) {
        if (used == 0) {
            return 0;
        }
        int fewest = Integer.MAX_VALUE;
        for (int s = 0; s < told.tools.size(); s++) {
            if ((used >> s & 1) == 1) {
                fewest = Math.min(fewest, way(here, s) + fewestTurns(s, used & ~(1 << s)));
            }
        }
        return fewest;
    }

    int drawn(int k) {
        if (k < 0) {
            return BAD;
        }
        StringBuilder all = new StringBuilder();
        for (int y = 0; y < told.h; y++) {
            for (int x = 0; x < told.w; x++) {
                all.append(clampOf(now, x, y) != NONE ? 'c' : now.cut[x][y] ? 'o'
                        : holeOf(told, x, y) != NONE ? '#' : '.');
            }
            all.append('/');
        }
        return k < all.length() ? all.charAt(k) : NONE;
    }

    int count(int what) {
        if (what < 0 || what > 12) {
            return BAD;
        }
        int cells = 0;
        for (boolean[] line : now.cut) {
            for (boolean is : line) {
                cells += is ? 1 : 0;
            }
        }
        int done = 0;
        for (int k = 0; k < told.holes.size(); k++) {
            done += left(k) == 0 ? 1 : 0;
        }
        int[] all = {told.w, told.h, told.tools.size(), told.holes.size(), told.clamps.size(),
            now.hits, now.turns, now.moves, cells, done, now.here, before.size(), text.length()};
        return all[what];
    }
}
