import java.util.Arrays;

/** Sheets punched by a turret; the words in capitals are those of the document. */
public final class TurretPunch {
    public static final int BAD = -1, NO = -2, FULL = -3, NONE = -4;

    private static final int MOST_LETTERS = 200;
    private static final int MOST_STATIONS = 6;
    private static final int MOST_HOLES = 5;
    private static final int MOST_CLAMPS = 2;
    private static final int MOST_UNDONE = 6;
    private static final int LEAST_SIDE = 3;
    private static final int MOST_SIDE = 12;
    private static final int MOST_TOOL_SIDE = 6;
    private static final int MOST_LIFE = 99;
    private static final int MOST_PLACE = 99;
    private static final int MOST_NUMBERS = 4;
    private static final String FIRST_TEXT =
            "sheet 10,8;tool 2,2,0,40;tool 3,1,1,12;tool 1,1,0,99;hole 1,1,4,2;hole 6,1,3,3;hole 2,5,1,3;hole 6,6,3,1;clamp 0;clamp 7;";

    private final Text text = new Text();
    private final Reader reader = new Reader();
    private final State now = new State();
    private final State trial = new State();
    private final History history = new History();
    private final Planner planner = new Planner();
    private final Area stamp = new Area();
    private Job laid = new Job();
    private Job draft = new Job();

    public TurretPunch() {
        for (int i = 0; i < FIRST_TEXT.length(); i++) {
            text.append(FIRST_TEXT.charAt(i));
        }
        layDraft();
        text.clear();
    }

    // ---- told

    public int write(int letter) {
        if (letter < 32 || letter > 126) {
            return BAD;
        }
        return text.append((char) letter) ? text.length : FULL;
    }

    public int wipe() {
        int length = text.length;
        text.clear();
        return length;
    }

    public int fault() {
        return reader.firstFault(text, draft);
    }

    public int lay() {
        return layDraft() ? laid.stations : NO;
    }

    // ---- what is done

    public int hit(int s, int x, int y, int turned) {
        if (!isHitTold(s, x, y, turned)) {
            return BAD;
        }
        laid.tools[s].stampAt(stamp, x, y, turned == 1);
        if (now.refusal(laid, s, turned == 1, stamp) != 0) {
            return NO;
        }
        history.keep(now);
        return now.punch(laid, s, stamp);
    }

    public int why(int s, int x, int y, int turned) {
        if (!isHitTold(s, x, y, turned)) {
            return BAD;
        }
        laid.tools[s].stampAt(stamp, x, y, turned == 1);
        return now.refusal(laid, s, turned == 1, stamp);
    }

    public int nibble(int k, int s, int turned) {
        if (!isHole(k) || !isStation(s) || !isFlag(turned)) {
            return BAD;
        }
        if (now.isCut(laid.holes[k])) {
            return NO;
        }
        // tried on a copy, since it is refused as a whole
        trial.copyFrom(now);
        int made = punchAll(laid.holes[k], s, turned == 1);
        if (made == 0) {
            return NO;
        }
        history.keep(now);
        now.copyFrom(trial);
        return made;
    }

    public int clamp(int c, int column) {
        if (!isClamp(c) || !laid.isColumn(column)) {
            return BAD;
        }
        int before = now.columns[c];
        if (column == before || now.isTakenByOther(laid, c, column)) {
            return NO;
        }
        history.keep(now);
        now.columns[c] = column;
        now.movesMade++;
        return before;
    }

    public int sharpen(int s) {
        if (!isStation(s)) {
            return BAD;
        }
        int before = now.worn[s];
        if (before == 0) {
            return NO;
        }
        history.keep(now);
        now.worn[s] = 0;
        return before;
    }

    public int undo() {
        return history.giveBack(now) ? history.size : NO;
    }

    // ---- looked at

    public int station(int s, int what) {
        if (!isStation(s)) {
            return BAD;
        }
        Tool tool = laid.tools[s];
        switch (what) {
            case 0: return tool.wide;
            case 1: return tool.high;
            case 2: return asFlag(tool.canTurn);
            case 3: return tool.life;
            case 4: return now.worn[s];
            case 5: return asFlag(now.isDull(laid, s));
            case 6: return laid.turnsBetween(now.here, s);
            default: return BAD;
        }
    }

    public int hole(int k, int what) {
        if (!isHole(k)) {
            return BAD;
        }
        Area area = laid.holes[k];
        switch (what) {
            case 0: return area.x;
            case 1: return area.y;
            case 2: return area.wide;
            case 3: return area.high;
            case 4: return now.uncutIn(area);
            case 5: return asFlag(now.isCut(area));
            default: return BAD;
        }
    }

    public int hits(int k, int s, int turned) {
        if (!isHole(k) || !isStation(s) || !isFlag(turned)) {
            return BAD;
        }
        int needed = laid.tools[s].hitsFor(laid.holes[k], turned == 1);
        return needed == 0 ? NONE : needed;
    }

    public int cell(int x, int y, int what) {
        if (!laid.sheet.has(x, y)) {
            return BAD;
        }
        switch (what) {
            case 0: return asFlag(now.isCellCut(x, y));
            case 1: return laid.holeAt(x, y);
            case 2: return now.clampAt(laid, x, y);
            default: return BAD;
        }
    }

    public int column(int c) {
        return isClamp(c) ? now.columns[c] : BAD;
    }

    // ---- the plan

    public int plan(int k) {
        if (k != -1 && k != -2 && !isHole(k)) {
            return BAD;
        }
        planner.work(laid, now);
        if (!planner.found) {
            return NONE;
        }
        if (k == -1) {
            return planner.bestHits;
        }
        if (k == -2) {
            return planner.bestTurns;
        }
        return planner.best[k];
    }

    public int drawn(int k) {
        if (k < 0) {
            return BAD;
        }
        int left = k;
        for (int y = 0; y < laid.sheet.high; y++) {
            if (left < laid.sheet.wide) {
                return signAt(left, y);
            }
            if (left == laid.sheet.wide) {
                return '/';
            }
            left -= laid.sheet.wide + 1;
        }
        return NONE;
    }

    public int count(int what) {
        switch (what) {
            case 0: return laid.sheet.wide;
            case 1: return laid.sheet.high;
            case 2: return laid.stations;
            case 3: return laid.holeCount;
            case 4: return laid.clampCount;
            case 5: return now.hitsMade;
            case 6: return now.turnsMade;
            case 7: return now.movesMade;
            case 8: return now.cutCells();
            case 9: return now.holesDone(laid);
            case 10: return now.here;
            case 11: return history.size;
            case 12: return text.length;
            default: return BAD;
        }
    }

    // ---- inside

    /** The draft is read anew; only one that can be LAID takes the place of what was. */
    private boolean layDraft() {
        if (reader.firstFault(text, draft) != NONE || draft.stations == 0) {
            return false;
        }
        Job before = laid;
        laid = draft;
        draft = before;
        now.begin(laid);
        history.forget();
        return true;
    }

    /** NIBBLES a HOLE on the trial: how many HITS, 0 if it can not be or one is refused. */
    private int punchAll(Area hole, int s, boolean turned) {
        Tool tool = laid.tools[s];
        if (tool.hitsFor(hole, turned) == 0) {
            return 0;
        }
        int rows = stepsOver(hole.high, tool.highWhen(turned));
        int perRow = stepsOver(hole.wide, tool.wideWhen(turned));
        int made = 0;
        for (int row = 0; row < rows; row++) {
            for (int i = 0; i < perRow; i++) {
                tool.stampAt(stamp, 0, 0, turned);
                stamp.x = hole.x + Math.min(i * stamp.wide, hole.wide - stamp.wide);
                stamp.y = hole.y + Math.min(row * stamp.high, hole.high - stamp.high);
                if (trial.isCut(stamp)) {
                    continue;
                }
                if (trial.refusal(laid, s, turned, stamp) != 0) {
                    return 0;
                }
                trial.punch(laid, s, stamp);
                made++;
            }
        }
        return made;
    }

    private char signAt(int x, int y) {
        if (now.clampAt(laid, x, y) != NONE) {
            return 'c';
        }
        if (now.isCellCut(x, y)) {
            return 'o';
        }
        return laid.holeAt(x, y) != NONE ? '#' : '.';
    }

    private boolean isHitTold(int s, int x, int y, int turned) {
        return isStation(s) && isWithin(x, 0, MOST_PLACE) && isWithin(y, 0, MOST_PLACE)
                && isFlag(turned);
    }

    private boolean isStation(int s) {
        return s >= 0 && s < laid.stations;
    }

    private boolean isHole(int k) {
        return k >= 0 && k < laid.holeCount;
    }

    private boolean isClamp(int c) {
        return c >= 0 && c < laid.clampCount;
    }

    private static boolean isFlag(int number) {
        return number == 0 || number == 1;
    }

    private static int asFlag(boolean is) {
        return is ? 1 : 0;
    }

    private static boolean isWithin(int number, int least, int most) {
        return number >= least && number <= most;
    }

    /** How many lie side by side until the length is covered. */
    private static int stepsOver(int length, int size) {
        return size < 1 ? 0 : (length + size - 1) / size;
    }

    /** THE TEXT. */
    private static final class Text {
        final char[] letters = new char[MOST_LETTERS];
        int length;

        boolean append(char letter) {
            if (length >= MOST_LETTERS) {
                return false;
            }
            letters[length] = letter;
            length++;
            return true;
        }

        void clear() {
            length = 0;
        }

        /** Beyond the end stands a letter that is of no ITEM, so a reader need not look for the end. */
        char letterAt(int place) {
            return place >= 0 && place < length ? letters[place] : (char) 0;
        }
    }

    /** CELLS from (x, y) on, so wide and so high: of a SHEET, a HOLE or a HIT. */
    private static final class Area {
        int x, y, wide, high;

        void put(int left, int top, int cellsWide, int cellsHigh) {
            x = left;
            y = top;
            wide = cellsWide;
            high = cellsHigh;
        }

        boolean has(int cellX, int cellY) {
            return cellX >= x && cellX < x + wide && cellY >= y && cellY < y + high;
        }

        boolean covers(Area other) {
            return other.x >= x && other.x + other.wide <= x + wide
                    && other.y >= y && other.y + other.high <= y + high;
        }

        boolean meets(Area other) {
            return other.x < x + wide && x < other.x + other.wide
                    && other.y < y + high && y < other.y + other.high;
        }

        /** A bit for each of its columns: its CELLS in any one of its rows. */
        int rowBits() {
            return ((1 << wide) - 1) << x;
        }
    }

    /** The TOOL of a STATION. */
    private static final class Tool {
        int wide, high, life;
        boolean canTurn;

        int wideWhen(boolean turned) {
            return turned ? high : wide;
        }

        int highWhen(boolean turned) {
            return turned ? wide : high;
        }

        void stampAt(Area stamp, int x, int y, boolean turned) {
            stamp.put(x, y, wideWhen(turned), highWhen(turned));
        }

        /** HITS by which it NIBBLES a HOLE of which nothing is cut; 0 if it can not. */
        int hitsFor(Area hole, boolean turned) {
            int across = wideWhen(turned);
            int down = highWhen(turned);
            if (turned && !canTurn || across > hole.wide || down > hole.high) {
                return 0;
            }
            return stepsOver(hole.wide, across) * stepsOver(hole.high, down);
        }
    }

    /** What a TEXT tells of; each item is taken only if it fits to those before it. */
    private static final class Job {
        final Area sheet = new Area();
        final Tool[] tools = new Tool[MOST_STATIONS];
        final Area[] holes = new Area[MOST_HOLES];
        final int[] columns = new int[MOST_CLAMPS];
        int stations, holeCount, clampCount;

        Job() {
            for (int s = 0; s < MOST_STATIONS; s++) {
                tools[s] = new Tool();
            }
            for (int k = 0; k < MOST_HOLES; k++) {
                holes[k] = new Area();
            }
        }

        void clear() {
            sheet.put(0, 0, 0, 0);
            stations = 0;
            holeCount = 0;
            clampCount = 0;
        }

        boolean hasSheet() {
            return sheet.wide > 0;
        }

        boolean takeSheet(int wide, int high) {
            if (hasSheet() || !isWithin(wide, LEAST_SIDE, MOST_SIDE)
                    || !isWithin(high, LEAST_SIDE, MOST_SIDE)) {
                return false;
            }
            sheet.put(0, 0, wide, high);
            return true;
        }

        boolean takeTool(int wide, int high, int turns, int life) {
            if (!hasSheet() || stations >= MOST_STATIONS || !isFlag(turns)
                    || !isWithin(wide, 1, MOST_TOOL_SIDE) || !isWithin(high, 1, MOST_TOOL_SIDE)
                    || !isWithin(life, 1, MOST_LIFE)) {
                return false;
            }
            Tool tool = tools[stations];
            tool.wide = wide;
            tool.high = high;
            tool.canTurn = turns == 1;
            tool.life = life;
            stations++;
            return true;
        }

        boolean takeHole(int x, int y, int wide, int high) {
            if (!hasSheet() || holeCount >= MOST_HOLES || wide < 1 || high < 1) {
                return false;
            }
            Area area = holes[holeCount];
            area.put(x, y, wide, high);
            if (!sheet.covers(area)) {
                return false;
            }
            for (int k = 0; k < holeCount; k++) {
                if (holes[k].meets(area)) {
                    return false;
                }
            }
            holeCount++;
            return true;
        }

        boolean takeClamp(int column) {
            if (!hasSheet() || clampCount >= MOST_CLAMPS || !isColumn(column)) {
                return false;
            }
            for (int c = 0; c < clampCount; c++) {
                if (areTooNear(columns[c], column)) {
                    return false;
                }
            }
            columns[clampCount] = column;
            clampCount++;
            return true;
        }

        boolean isColumn(int column) {
            return isWithin(column, 0, sheet.wide - 2);
        }

        /** Whether CLAMPS at these columns would hold one CELL both. */
        static boolean areTooNear(int column, int other) {
            return isWithin(column - other, -1, 1);
        }

        int holeAt(int x, int y) {
            for (int k = 0; k < holeCount; k++) {
                if (holes[k].has(x, y)) {
                    return k;
                }
            }
            return NONE;
        }

        /** HOLES share no CELL, so CELLS are of one HOLE just if a HOLE covers them. */
        boolean isOfOneHole(Area area) {
            for (int k = 0; k < holeCount; k++) {
                if (holes[k].covers(area)) {
                    return true;
                }
            }
            return false;
        }

        int turnsBetween(int from, int to) {
            int straight = Math.abs(from - to);
            return Math.min(straight, stations - straight);
        }

        /** The fewest TURNS by which all STATIONS of the mask are come to, in some order. */
        int turnsThrough(int here, int mask) {
            int fewest = stations;
            for (int up = 0; up < stations; up++) {
                int down = downBeyond(here, mask, up);
                fewest = Math.min(fewest, up + down + Math.min(up, down));
            }
            return fewest;
        }

        /** How far down the ring the TURRET must go for those that are not come to going so far up. */
        private int downBeyond(int here, int mask, int up) {
            for (int step = up + 1; step < stations; step++) {
                int s = here + step < stations ? here + step : here + step - stations;
                if ((mask & 1 << s) != 0) {
                    return stations - step;
                }
            }
            return 0;
        }
    }

    /** Reads THE TEXT item by item. */
    private static final class Reader {
        private final int[] numbers = new int[MOST_NUMBERS];
        private int at;

        /** FAULT, or NONE; the job is then all that the TEXT tells of. */
        int firstFault(Text text, Job job) {
            job.clear();
            at = 0;
            for (int items = 0; items < MOST_LETTERS && at < text.length; items++) {
                int start = at;
                if (!takesItem(text, job)) {
                    return start;
                }
            }
            return NONE;
        }

        private boolean takesItem(Text text, Job job) {
            if (takesWord(text, "sheet ")) {
                return takesNumbers(text, 2) && job.takeSheet(numbers[0], numbers[1]);
            }
            if (takesWord(text, "tool ")) {
                return takesNumbers(text, 4)
                        && job.takeTool(numbers[0], numbers[1], numbers[2], numbers[3]);
            }
            if (takesWord(text, "hole ")) {
                return takesNumbers(text, 4)
                        && job.takeHole(numbers[0], numbers[1], numbers[2], numbers[3]);
            }
            if (takesWord(text, "clamp ")) {
                return takesNumbers(text, 1) && job.takeClamp(numbers[0]);
            }
            return false;
        }

        private boolean takesWord(Text text, String word) {
            for (int i = 0; i < word.length(); i++) {
                if (text.letterAt(at + i) != word.charAt(i)) {
                    return false;
                }
            }
            at += word.length();
            return true;
        }

        private boolean takesNumbers(Text text, int howMany) {
            for (int i = 0; i < howMany && i < MOST_NUMBERS; i++) {
                if (!isFigure(text.letterAt(at))) {
                    return false;
                }
                numbers[i] = takeNumber(text);
                if (text.letterAt(at) != (i == howMany - 1 ? ';' : ',')) {
                    return false;
                }
                at++;
            }
            return true;
        }

        private int takeNumber(Text text) {
            int number = text.letterAt(at) - '0';
            at++;
            if (isFigure(text.letterAt(at))) {
                number = number * 10 + text.letterAt(at) - '0';
                at++;
            }
            return number;
        }

        private static boolean isFigure(char letter) {
            return letter >= '0' && letter <= '9';
        }
    }

    /** All that a change can change, in one place so that a change is UNDONE by a copy. */
    private static final class State {
        /** For each row a bit for each CELL that is cut. */
        final int[] cut = new int[MOST_SIDE];
        final int[] worn = new int[MOST_STATIONS];
        final int[] columns = new int[MOST_CLAMPS];
        int here, hitsMade, turnsMade, movesMade;

        void begin(Job job) {
            Arrays.fill(cut, 0);
            Arrays.fill(worn, 0);
            System.arraycopy(job.columns, 0, columns, 0, MOST_CLAMPS);
            here = 0;
            hitsMade = 0;
            turnsMade = 0;
            movesMade = 0;
        }

        void copyFrom(State other) {
            System.arraycopy(other.cut, 0, cut, 0, MOST_SIDE);
            System.arraycopy(other.worn, 0, worn, 0, MOST_STATIONS);
            System.arraycopy(other.columns, 0, columns, 0, MOST_CLAMPS);
            here = other.here;
            hitsMade = other.hitsMade;
            turnsMade = other.turnsMade;
            movesMade = other.movesMade;
        }

        /** Why a HIT is refused, 0 if it is not. */
        int refusal(Job job, int s, boolean turned, Area stamp) {
            if (turned && !job.tools[s].canTurn) {
                return 1;
            }
            if (!job.sheet.covers(stamp)) {
                return 2;
            }
            if (!job.isOfOneHole(stamp)) {
                return 3;
            }
            if (isClamped(job, stamp)) {
                return 4;
            }
            if (isCut(stamp)) {
                return 5;
            }
            return isDull(job, s) ? 6 : 0;
        }

        /** A HIT that is not refused: how many CELLS are cut that were not. */
        int punch(Job job, int s, Area stamp) {
            int fresh = uncutIn(stamp);
            for (int y = stamp.y; y < stamp.y + stamp.high && y < MOST_SIDE; y++) {
                cut[y] |= stamp.rowBits();
            }
            worn[s]++;
            hitsMade++;
            turnsMade += job.turnsBetween(here, s);
            here = s;
            return fresh;
        }

        boolean isDull(Job job, int s) {
            return worn[s] >= job.tools[s].life;
        }

        int uncutIn(Area area) {
            int uncut = 0;
            for (int y = area.y; y < area.y + area.high && y < MOST_SIDE; y++) {
                uncut += Integer.bitCount(area.rowBits() & ~cut[y]);
            }
            return uncut;
        }

        boolean isCut(Area area) {
            return uncutIn(area) == 0;
        }

        boolean isCellCut(int x, int y) {
            return (cut[y] & 1 << x) != 0;
        }

        int cutCells() {
            int cells = 0;
            for (int y = 0; y < MOST_SIDE; y++) {
                cells += Integer.bitCount(cut[y]);
            }
            return cells;
        }

        int holesDone(Job job) {
            int done = 0;
            for (int k = 0; k < job.holeCount; k++) {
                if (isCut(job.holes[k])) {
                    done++;
                }
            }
            return done;
        }

        int clampAt(Job job, int x, int y) {
            if (y != job.sheet.high - 1) {
                return NONE;
            }
            for (int c = 0; c < job.clampCount; c++) {
                if (isWithin(x - columns[c], 0, 1)) {
                    return c;
                }
            }
            return NONE;
        }

        boolean isTakenByOther(Job job, int c, int column) {
            for (int other = 0; other < job.clampCount; other++) {
                if (other != c && Job.areTooNear(columns[other], column)) {
                    return true;
                }
            }
            return false;
        }

        private boolean isClamped(Job job, Area stamp) {
            int edge = job.sheet.high - 1;
            for (int c = 0; c < job.clampCount; c++) {
                if (stamp.has(columns[c], edge) || stamp.has(columns[c] + 1, edge)) {
                    return true;
                }
            }
            return false;
        }
    }

    /** The states before the last changes, in a ring, so that the oldest makes room. */
    private static final class History {
        private final State[] kept = new State[MOST_UNDONE];
        private int next;
        int size;

        History() {
            for (int i = 0; i < MOST_UNDONE; i++) {
                kept[i] = new State();
            }
        }

        void forget() {
            size = 0;
        }

        void keep(State state) {
            kept[next].copyFrom(state);
            next = next + 1 < MOST_UNDONE ? next + 1 : 0;
            size = Math.min(size + 1, MOST_UNDONE);
        }

        boolean giveBack(State state) {
            if (size == 0) {
                return false;
            }
            next = next > 0 ? next - 1 : MOST_UNDONE - 1;
            size--;
            state.copyFrom(kept[next]);
            return true;
        }
    }

    /**
     * THE PLAN. For each set of STATIONS every HOLE takes, on its own, the first way of the fewest
     * HITS by these STATIONS, and the TURNS are those to all of the set. THE PLAN is among these:
     * in it every HOLE takes such a way of the set that it uses. And a set of which some are not
     * used does no harm: the set of those that are used tells the same ways with no more TURNS.
     */
    private static final class Planner {
        /** For HOLE and STATION the fewest HITS, 0 if it can not be, and the way of these as plan tells it. */
        private final int[] fewest = new int[MOST_HOLES * MOST_STATIONS];
        private final int[] ways = new int[MOST_HOLES * MOST_STATIONS];
        private final int[] tried = new int[MOST_HOLES];
        private int triedHits;
        final int[] best = new int[MOST_HOLES];
        int bestHits, bestTurns;
        boolean found;

        void work(Job job, State state) {
            found = false;
            weighWays(job);
            for (int mask = 0; mask < 1 << job.stations; mask++) {
                if (!triesSet(job, state, mask)) {
                    continue;
                }
                int turns = job.turnsThrough(state.here, mask);
                if (!found || isBetter(job.holeCount, turns)) {
                    keepTried(turns);
                }
            }
        }

        private void weighWays(Job job) {
            for (int k = 0; k < job.holeCount; k++) {
                for (int s = 0; s < job.stations; s++) {
                    int straight = job.tools[s].hitsFor(job.holes[k], false);
                    int turned = job.tools[s].hitsFor(job.holes[k], true);
                    boolean turns = turned != 0 && (straight == 0 || turned < straight);
                    fewest[k * MOST_STATIONS + s] = turns ? turned : straight;
                    ways[k * MOST_STATIONS + s] = 2 * s + asFlag(turns);
                }
            }
        }

        /** Whether each HOLE that is not DONE has a way by the STATIONS of the mask. */
        private boolean triesSet(Job job, State state, int mask) {
            triedHits = 0;
            for (int k = 0; k < job.holeCount; k++) {
                tried[k] = NONE;
                if (state.isCut(job.holes[k])) {
                    continue;
                }
                int hits = takeFirstFewest(k, job.stations, mask);
                if (hits == 0) {
                    return false;
                }
                triedHits += hits;
            }
            return true;
        }

        private int takeFirstFewest(int k, int stations, int mask) {
            int hits = 0;
            for (int s = 0; s < stations; s++) {
                int by = fewest[k * MOST_STATIONS + s];
                if ((mask & 1 << s) != 0 && by != 0 && (hits == 0 || by < hits)) {
                    hits = by;
                    tried[k] = ways[k * MOST_STATIONS + s];
                }
            }
            return hits;
        }

        private boolean isBetter(int holes, int turns) {
            if (triedHits + turns != bestHits + bestTurns) {
                return triedHits + turns < bestHits + bestTurns;
            }
            if (turns != bestTurns) {
                return turns < bestTurns;
            }
            for (int k = 0; k < holes; k++) {
                if (tried[k] != best[k]) {
                    return tried[k] < best[k];
                }
            }
            return false;
        }

        private void keepTried(int turns) {
            found = true;
            bestHits = triedHits;
            bestTurns = turns;
            System.arraycopy(tried, 0, best, 0, MOST_HOLES);
        }
    }
}
