/** The promises 1 to 19, one by one: ordinary inputs, the edges that the document names, wrong inputs. */
public final class PromisesTest {
    private static final int BAD = -1, NO = -2, FULL = -3, NONE = -4;
    private static final int LOW = Integer.MIN_VALUE, HIGH = Integer.MAX_VALUE;
    private static final Due DUE = new Due();

    public static void main(String[] args) {
        newObject();
        write();
        wipe();
        fault();
        faultOfSheets();
        faultOfTools();
        faultOfHoles();
        faultOfClamps();
        lay();
        hit();
        why();
        whyTheLowest();
        nibble();
        nibbleRefused();
        clamp();
        sharpen();
        undo();
        undoLeavesTheText();
        station();
        hole();
        hits();
        cell();
        column();
        plan();
        planOfSeveral();
        planNone();
        drawn();
        count();
        DUE.end();
    }

    private static void is(String what, long got, long want) {
        DUE.is(what, got, want);
    }

    // ---- promise 1

    private static void newObject() {
        TurretPunch p = new TurretPunch();
        int[] counts = {10, 8, 3, 4, 2, 0, 0, 0, 0, 0, 0, 0, 0};
        for (int what = 0; what < counts.length; what++) {
            is("1 count " + what, p.count(what), counts[what]);
        }
        int[][] tools = {{2, 2, 0, 40}, {3, 1, 1, 12}, {1, 1, 0, 99}};
        int[][] holes = {{1, 1, 4, 2}, {6, 1, 3, 3}, {2, 5, 1, 3}, {6, 6, 3, 1}};
        for (int what = 0; what < 4; what++) {
            for (int s = 0; s < 3; s++) {
                is("1 station " + s, p.station(s, what), tools[s][what]);
            }
            for (int k = 0; k < 4; k++) {
                is("1 hole " + k, p.hole(k, what), holes[k][what]);
            }
        }
        is("1 column 0", p.column(0), 0);
        is("1 column 1", p.column(1), 7);
        is("1 nothing to undo", p.undo(), NO);
        is("1 no text, no fault", p.fault(), NONE);
        is("1 no text", p.wipe(), 0);
        is("1 an empty text is not laid", p.lay(), NO);
        DUE.holds("1 drawn", Due.drawing(p).equals("........../.####.###./.####.###./......###./"
                + "........../..#......./..#...###./cc#....cc./"));
        TurretPunch other = new TurretPunch();
        p.hit(0, 1, 1, 0);
        is("1 objects share nothing", other.count(8), 0);
    }

    // ---- promise 2

    private static void write() {
        TurretPunch p = new TurretPunch();
        int[] wrong = {31, 127, 0, -1, LOW, HIGH, 256 + 65, 65536 + 65};
        for (int letter : wrong) {
            is("2 write " + letter, p.write(letter), BAD);
        }
        is("2 nothing was written", p.count(12), 0);
        is("2 the lowest", p.write(32), 1);
        is("2 the highest", p.write(126), 2);
        for (int i = 3; i <= 200; i++) {
            is("2 the length", p.write('a'), i);
        }
        is("2 full", p.write('a'), FULL);
        is("2 bad comes before full", p.write(31), BAD);
        is("2 bad comes before full", p.write(127), BAD);
        is("2 still 200", p.count(12), 200);
        is("2 nothing else changes", p.count(0), 10);
    }

    // ---- promise 3

    private static void wipe() {
        TurretPunch p = new TurretPunch();
        is("3 empty", p.wipe(), 0);
        Due.tell(p, "sheet");
        is("3 five", p.wipe(), 5);
        is("3 empty again", p.wipe(), 0);
        is("3 begins anew", p.write('x'), 1);
        p.wipe();
        for (int i = 0; i < 200; i++) {
            p.write('a');
        }
        is("3 full", p.wipe(), 200);
        is("3 can be written again", p.write('a'), 1);
        p.wipe();
        p.hit(0, 1, 1, 0);
        p.wipe();
        is("3 the sheet stays", p.count(8), 4);
        is("3 the changes stay", p.count(11), 1);
    }

    // ---- promise 4

    private static void faultAt(String text, int want) {
        TurretPunch p = new TurretPunch();
        Due.tell(p, text);
        is("4 fault of \"" + text + "\"", p.fault(), want);
        is("4 the text stays", p.count(12), text.length());
        is("4 the sheet stays", p.count(0), 10);
        if (want != NONE) {
            is("5 not laid \"" + text + "\"", p.lay(), NO);
            is("5 the sheet stays", p.count(0), 10);
        }
    }

    private static void fault() {
        faultAt("", NONE);
        faultAt("sheet 10,8;tool 2,2,0,40;tool 3,1,1,12;tool 1,1,0,99;hole 1,1,4,2;hole 6,1,3,3;"
                + "hole 2,5,1,3;hole 6,6,3,1;clamp 0;clamp 7;", NONE);
        faultAt("sheet 4,4;clamp 0;hole 0,0,1,1;tool 1,1,0,1;", NONE);
        String s = "sheet 4,4;";
        String[] wrong = {" ", ";", "x", "tool", "tool ", "tool 1,1,0,1", "tool1,1,0,1;", "tool  1,1,0,1;",
            "Tool 1,1,0,1;", "tool 1,1,0;", "tool 1,1,0,1,1;", "tool 1, 1,0,1;", "tool 1,,0,1;", "tool 1,1,0,;",
            "tool 1,1,0,1 ;", "tool 1,1,0,1,", "tool -1,1,0,1;", "tool 1,1,0,001;", "tool 1;1,0,1;", "clamp;",
            "clamp ;", "clamp 1,1;", "clamp 001;", "clamp a;", "hole 0,0,1;", "hole 0,0,1,1,1;", "clam 1;",
            "clamps 1;", "tools 1,1,0,1;", " tool 1,1,0,1;", "clamp 1", "tool 1,1,0,1:", "tool 1,1,0,/;"};
        for (String item : wrong) {
            faultAt(s + item, 10);
            faultAt(s + "clamp 2;" + item + "sheet 4,4;", 18);
        }
        faultAt("sheet 4,4;tool 01,01,00,01;clamp 01;hole 00,00,01,01;", NONE);
        faultAt("sheet 4,4;tool 1,1,0,1;;", 23);
        faultAt("sheet 4,4;tool 1,1,0,1; ", 23);
        faultAt("sheet 4,4;tool 1,1,0,1;clamp 9;tool 9,9,9,9;", 23);
    }

    private static void faultOfSheets() {
        String[] wrong = {"sheet 2,3;", "sheet 3,2;", "sheet 13,3;", "sheet 3,13;", "sheet 0,0;", "sheet 4;",
            "sheet 4,4,4;", "sheet 4,4", "sheet 99,99;", "sheet 004,4;", "tool 1,1,0,1;", "hole 0,0,1,1;", "clamp 0;",
            "tool 1,1,0,1;sheet 4,4;", "clamp 0;sheet 4,4;", "hole 0,0,1,1;sheet 4,4;", "sheet", "s", " sheet 4,4;"};
        for (String text : wrong) {
            faultAt(text, 0);
        }
        faultAt("sheet 3,3;", NONE);
        faultAt("sheet 12,12;", NONE);
        faultAt("sheet 03,12;", NONE);
        faultAt("sheet 4,4;sheet 4,4;", 10);
        faultAt("sheet 4,4;tool 1,1,0,1;sheet 5,5;", 23);
    }

    private static void faultOfTools() {
        String s = "sheet 3,3;";
        String[] wrong = {"tool 0,1,0,1;", "tool 1,0,0,1;", "tool 7,1,0,1;", "tool 1,7,0,1;", "tool 1,1,2,1;",
            "tool 1,1,0,0;", "tool 1,1,0,100;", "tool 1,1,10,1;", "tool 10,1,0,1;"};
        for (String item : wrong) {
            faultAt(s + item, 10);
        }
        faultAt(s + "tool 6,6,1,99;", NONE);
        faultAt(s + "tool 1,1,0,1;", NONE);
        String tool = "tool 1,1,0,1;";
        String six = s + tool + tool + tool + tool + tool + tool;
        faultAt(six, NONE);
        faultAt(six + "clamp 0;", NONE);
        faultAt(six + tool, 10 + 6 * tool.length());
    }

    private static void faultOfHoles() {
        String s = "sheet 5,4;";
        String[] wrong = {"hole 5,0,1,1;", "hole 0,4,1,1;", "hole 0,0,6,1;", "hole 0,0,1,5;", "hole 4,0,2,1;",
            "hole 0,3,1,2;", "hole 0,0,0,1;", "hole 0,0,1,0;", "hole 99,99,99,99;", "hole 5,0,0,1;"};
        for (String item : wrong) {
            faultAt(s + item, 10);
        }
        faultAt(s + "hole 0,0,5,4;", NONE);
        faultAt(s + "hole 4,3,1,1;", NONE);
        String hole = "hole 1,1,2,2;";
        String[] overlapping = {"hole 1,1,2,2;", "hole 2,2,1,1;", "hole 0,0,2,2;", "hole 0,1,5,1;", "hole 2,0,1,4;",
            "hole 0,0,5,4;"};
        for (String item : overlapping) {
            faultAt(s + hole + item, 23);
        }
        faultAt(s + hole + "hole 0,0,1,4;hole 1,0,4,1;hole 3,1,2,3;hole 1,3,2,1;", NONE);
        faultAt(s + hole + "hole 0,0,1,4;hole 1,0,4,1;hole 3,1,1,3;hole 1,3,2,1;hole 4,1,1,1;", 75);
    }

    private static void faultOfClamps() {
        faultAt("sheet 5,4;clamp 3;", NONE);
        faultAt("sheet 5,4;clamp 4;", 10);
        faultAt("sheet 5,4;clamp 99;", 10);
        faultAt("sheet 5,4;clamp 0;clamp 0;", 18);
        faultAt("sheet 5,4;clamp 0;clamp 1;", 18);
        faultAt("sheet 5,4;clamp 1;clamp 0;", 18);
        faultAt("sheet 5,4;clamp 0;clamp 2;", NONE);
        faultAt("sheet 5,4;clamp 3;clamp 1;", NONE);
        faultAt("sheet 8,4;clamp 0;clamp 2;clamp 4;", 26);
        faultAt("sheet 5,4;hole 0,3,5,1;clamp 0;clamp 2;", NONE);
    }

    // ---- promise 5

    private static void lay() {
        TurretPunch p = new TurretPunch();
        p.hit(1, 6, 1, 0);
        p.clamp(0, 2);
        is("5 empty", p.lay(), NO);
        Due.tell(p, "sheet 4,5;");
        is("5 no station", p.lay(), NO);
        Due.tell(p, "hole 0,0,2,2;clamp 1;");
        is("5 no station", p.lay(), NO);
        is("5 all stays then", p.count(8), 3);
        is("5 all stays then", p.count(11), 2);
        Due.tell(p, "tool 1,2,1,7;tool 2,2,0,9;");
        int length = p.count(12);
        is("5 two stations", p.lay(), 2);
        int[] counts = {4, 5, 2, 1, 1, 0, 0, 0, 0, 0, 0, 0, length};
        for (int what = 0; what < counts.length; what++) {
            is("5 count " + what, p.count(what), counts[what]);
        }
        is("5 none can be undone", p.undo(), NO);
        is("5 column", p.column(0), 1);
        is("5 second clamp is none", p.column(1), BAD);
        is("5 third station is none", p.station(2, 0), BAD);
        is("5 second hole is none", p.hole(1, 0), BAD);
        p.hit(1, 0, 0, 0);
        p.clamp(0, 0);
        is("5 laid again", p.lay(), 2);
        is("5 nothing is cut", p.count(8), 0);
        is("5 the clamp as told", p.column(0), 1);
        is("5 never hit", p.station(1, 4), 0);
        is("5 station 0 is here", p.count(10), 0);
        p.write('x');
        p.hit(1, 0, 0, 0);
        is("5 a fault", p.lay(), NO);
        is("5 what is laid stays", p.count(8), 4);
        is("5 can still be undone", p.undo(), 0);
        p.wipe();
        is("5 what is laid stays", p.count(1), 5);
    }

    // ---- promise 6

    private static void hit() {
        TurretPunch p = new TurretPunch();
        badHits(p, true);
        is("6 four cells", p.hit(0, 1, 1, 0), 4);
        is("6 two are new", p.hit(0, 2, 1, 0), 2);
        is("6 none is new", p.hit(0, 1, 1, 0), NO);
        is("6 it is no change", p.count(11), 2);
        is("6 hits", p.station(0, 4), 2);
        is("6 turned", p.hit(1, 6, 1, 1), 3);
        for (int y = 1; y < 4; y++) {
            is("6 cut", p.cell(6, y, 0), 1);
            is("6 not cut", p.cell(7, y, 0), 0);
        }
        is("6 here", p.count(10), 1);
        is("6 turns", p.count(6), 1);
        is("6 straight", p.hit(1, 6, 2, 0), 2);
        is("6 no turn", p.count(6), 1);
        is("6 hits so far", p.count(5), 4);
        is("6 far out", p.hit(0, 99, 99, 0), NO);
        is("6 on none", p.hit(2, 0, 0, 0), NO);
        is("6 held", p.hit(0, 7, 6, 0), NO);
        TurretPunch ring = Due.laid("sheet 9,3;tool 1,1,0,9;tool 1,1,0,9;tool 1,1,0,9;tool 1,1,0,9;tool 1,1,0,9;"
                + "tool 1,1,0,9;hole 0,0,9,1;");
        int[] way = {5, 1, 4, 0, 2, 5};
        int[] turns = {1, 3, 6, 8, 10, 13};
        for (int i = 0; i < way.length; i++) {
            is("6 one cell", ring.hit(way[i], i, 0, 0), 1);
            is("6 the shorter way to " + way[i], ring.count(6), turns[i]);
        }
    }

    private static void badHits(TurretPunch p, boolean hit) {
        int[][] wrong = {{-1, 1, 1, 0}, {3, 1, 1, 0}, {0, -1, 1, 0}, {0, 100, 1, 0}, {0, 1, -1, 0}, {0, 1, 100, 0},
            {0, 1, 1, -1}, {0, 1, 1, 2}, {LOW, LOW, LOW, LOW}, {HIGH, 1, 1, 0}, {0, HIGH, 1, 0}, {0, 1, HIGH, 0},
            {0, 1, 1, HIGH}, {0, LOW, 1, 0}};
        for (int[] w : wrong) {
            is("6, 7 bad", hit ? p.hit(w[0], w[1], w[2], w[3]) : p.why(w[0], w[1], w[2], w[3]), BAD);
        }
        is("6, 7 bad changes nothing", p.count(11), 0);
    }

    // ---- promise 7

    private static void why() {
        TurretPunch p = new TurretPunch();
        badHits(p, false);
        is("7 it can be", p.why(0, 1, 1, 0), 0);
        is("7 asking changes nothing", p.count(8) + p.count(11) + p.station(0, 4), 0);
        is("7 does not turn", p.why(0, 1, 1, 1), 1);
        is("7 over the right edge", p.why(0, 9, 0, 0), 2);
        is("7 over the lower edge", p.why(0, 0, 7, 0), 2);
        is("7 just out", p.why(2, 10, 0, 0), 2);
        is("7 just in", p.why(2, 9, 7, 0), 3);
        is("7 far out", p.why(0, 99, 99, 0), 2);
        is("7 turned out", p.why(1, 0, 6, 1), 2);
        is("7 of none", p.why(2, 0, 0, 0), 3);
        is("7 one of none", p.why(0, 4, 1, 0), 3);
        is("7 the first of none", p.why(0, 0, 1, 0), 3);
        is("7 held", p.why(2, 7, 7, 0), 3);
        TurretPunch q = Due.laid("sheet 6,4;tool 2,1,1,1;tool 1,1,1,9;hole 0,0,2,4;hole 2,0,2,4;clamp 1;");
        is("7 of two holes", q.why(0, 1, 0, 0), 3);
        is("7 of one", q.why(0, 2, 0, 0), 0);
        is("7 held on the left", q.why(0, 0, 3, 0), 4);
        is("7 held on the right", q.why(0, 2, 3, 0), 4);
        is("7 held below", q.why(0, 1, 2, 1), 4);
        is("7 beside the clamp", q.why(0, 0, 2, 1), 0);
        is("7 above the clamp", q.why(0, 0, 2, 0), 0);
        is("7 hit", q.hit(0, 0, 0, 0), 2);
        is("7 all cut", q.why(0, 0, 0, 0), 5);
        is("7 all cut by another", q.why(1, 1, 0, 1), 5);
        is("7 dull", q.why(0, 0, 1, 0), 6);
        is("7 not dull", q.why(1, 0, 1, 0), 0);
        q.sharpen(0);
        is("7 sharp", q.why(0, 0, 1, 0), 0);
    }

    private static void whyTheLowest() {
        TurretPunch q = Due.laid("sheet 4,4;tool 2,1,0,1;tool 2,1,1,1;hole 0,3,2,1;hole 2,3,1,1;clamp 2;");
        is("7 1 before 2", q.why(0, 3, 3, 1), 1);
        is("7 2 before 3", q.why(0, 3, 3, 0), 2);
        is("7 3 before 4", q.why(0, 1, 3, 0), 3);
        is("7 cut", q.hit(0, 0, 3, 0), 2);
        is("7 5 before 6", q.why(0, 0, 3, 0), 5);
        is("7 1 before 5", q.why(0, 0, 3, 1), 1);
        is("7 moved", q.clamp(0, 0), 2);
        is("7 4 before 5", q.why(0, 0, 3, 0), 4);
        is("7 3 before 4 and 6", q.why(0, 1, 3, 0), 3);
    }

    // ---- promise 8

    private static void nibble() {
        TurretPunch p = new TurretPunch();
        badNibbles(p, true);
        is("8 too high", p.nibble(0, 1, 1), NO);
        is("8 too wide", p.nibble(2, 1, 0), NO);
        is("8 does not turn", p.nibble(0, 2, 1), NO);
        is("8 two", p.nibble(0, 0, 0), 2);
        is("8 all is cut", p.hole(0, 5), 1);
        is("8 done", p.nibble(0, 0, 0), NO);
        is("8 done", p.nibble(0, 2, 0), NO);
        is("8 turns once", p.nibble(1, 1, 1), 3);
        is("8 turns", p.count(6), 1);
        is("8 one change", p.count(11), 2);
        is("8 hits so far", p.count(5), 5);
        is("8 under a clamp", p.nibble(3, 1, 0), 1);
        TurretPunch back = Due.laid("sheet 7,7;tool 3,2,1,9;tool 1,1,0,99;hole 1,1,5,5;");
        is("8 a cell", back.hit(1, 1, 1, 0), 1);
        is("8 back as far as is needed", back.nibble(0, 0, 0), 6);
        TurretPunch left = Due.laid("sheet 7,7;tool 3,2,1,9;tool 2,2,0,99;hole 1,1,5,5;");
        left.hit(1, 4, 1, 0);
        left.hit(1, 3, 1, 0);
        is("8 the second is left out", left.nibble(0, 0, 0), 5);
        TurretPunch late = Due.laid("sheet 5,5;tool 3,3,0,9;tool 1,1,0,9;hole 0,0,5,3;");
        late.hit(1, 4, 0, 0);
        late.hit(1, 4, 1, 0);
        late.hit(1, 4, 2, 0);
        late.hit(1, 3, 0, 0);
        late.hit(1, 3, 1, 0);
        late.hit(1, 3, 2, 0);
        is("8 left out as it comes: the first cuts the rest of it", late.nibble(0, 0, 0), 1);
    }

    private static void badNibbles(TurretPunch p, boolean nibble) {
        int[][] wrong = {{-1, 0, 0}, {4, 0, 0}, {0, -1, 0}, {0, 3, 0}, {0, 0, -1}, {0, 0, 2}, {LOW, 0, 0},
            {HIGH, HIGH, HIGH}, {0, LOW, 0}, {0, 0, HIGH}};
        for (int[] w : wrong) {
            is("8, 14 bad", nibble ? p.nibble(w[0], w[1], w[2]) : p.hits(w[0], w[1], w[2]), BAD);
        }
        is("8, 14 bad changes nothing", p.count(11), 0);
    }

    private static void nibbleRefused() {
        TurretPunch dull = Due.laid("sheet 4,4;tool 1,1,0,4;hole 0,0,4,1;hole 0,1,4,2;");
        is("8 dull on the way", dull.nibble(1, 0, 0), NO);
        is("8 as a whole", dull.count(8) + dull.count(5) + dull.count(11) + dull.station(0, 4), 0);
        is("8 just sharp enough", dull.nibble(0, 0, 0), 4);
        is("8 dull", dull.station(0, 5), 1);
        is("8 dull", dull.nibble(1, 0, 0), NO);
        is("8 sharp", dull.sharpen(0), 4);
        is("8 not for all", dull.nibble(1, 0, 0), NO);
        for (int x = 0; x < 4; x++) {
            dull.hit(0, x, 1, 0);
        }
        dull.sharpen(0);
        is("8 only those that are not cut", dull.nibble(1, 0, 0), 4);
        TurretPunch held = Due.laid("sheet 6,4;tool 1,2,0,99;tool 1,1,0,9;tool 1,1,0,9;hole 2,0,2,4;clamp 2;");
        is("8 held in the last row", held.nibble(0, 0, 0), NO);
        is("8 as a whole", held.count(8) + held.count(6), 0);
        held.clamp(0, 0);
        held.hit(1, 2, 3, 0);
        held.hit(1, 3, 3, 0);
        held.clamp(0, 2);
        is("8 held, cut or not", held.nibble(0, 0, 0), NO);
        held.hit(2, 2, 2, 0);
        held.hit(2, 3, 2, 0);
        is("8 those that are cut do not come", held.nibble(0, 0, 0), 2);
        is("8 done under a clamp", held.hole(0, 5), 1);
    }

    // ---- promise 9

    private static void clamp() {
        TurretPunch p = new TurretPunch();
        int[][] wrong = {{-1, 3}, {2, 3}, {0, -1}, {0, 9}, {0, 10}, {LOW, 3}, {HIGH, 3}, {0, LOW}, {0, HIGH}};
        for (int[] w : wrong) {
            is("9 bad", p.clamp(w[0], w[1]), BAD);
        }
        is("9 it is there", p.clamp(0, 0), NO);
        is("9 on the other", p.clamp(0, 7), NO);
        is("9 beside the other", p.clamp(0, 6), NO);
        is("9 beside the other", p.clamp(0, 8), NO);
        is("9 no change", p.count(7) + p.count(11), 0);
        is("9 up to the other", p.clamp(0, 5), 0);
        is("9 there it is", p.column(0), 5);
        is("9 the other", p.clamp(1, 8), 7);
        is("9 over the hole", p.clamp(0, 2), 5);
        is("9 held", p.cell(2, 7, 2), 0);
        is("9 held", p.cell(3, 7, 2), 0);
        is("9 not held", p.cell(5, 7, 2), NONE);
        is("9 the column before is free", p.clamp(1, 5), 8);
        is("9 moved", p.count(7), 4);
        TurretPunch one = Due.laid("sheet 3,3;tool 1,1,0,1;clamp 0;");
        is("9 by one, over itself", one.clamp(0, 1), 0);
        is("9 too far", one.clamp(0, 2), BAD);
        is("9 there is no other", one.clamp(1, 0), BAD);
    }

    // ---- promise 10

    private static void sharpen() {
        TurretPunch p = new TurretPunch();
        int[] wrong = {-1, 3, LOW, HIGH};
        for (int s : wrong) {
            is("10 bad", p.sharpen(s), BAD);
        }
        is("10 never", p.sharpen(0), NO);
        is("10 no change", p.count(11), 0);
        p.nibble(0, 2, 0);
        is("10 another", p.sharpen(0), NO);
        is("10 eight", p.sharpen(2), 8);
        is("10 sharp", p.station(2, 4), 0);
        is("10 never since", p.sharpen(2), NO);
        is("10 the hits stay", p.count(5), 8);
        is("10 a change", p.count(11), 2);
        is("10 does not turn", p.count(10), 2);
    }

    // ---- promise 11

    private static void undo() {
        TurretPunch p = new TurretPunch();
        is("11 none", p.undo(), NO);
        for (int i = 0; i < 8; i++) {
            is("11 a cell", p.hit(2, 1 + i % 4, 1 + i / 4, 0), 1);
            is("11 so many can be", p.count(11), Math.min(i + 1, 6));
        }
        for (int i = 5; i >= 0; i--) {
            is("11 undone", p.undo(), i);
            is("11 cells", p.count(8), i + 2);
            is("11 hits", p.count(5), i + 2);
            is("11 worn", p.station(2, 4), i + 2);
        }
        is("11 no more", p.undo(), NO);
        is("11 the first two stay", p.count(8), 2);
        is("11 goes on", p.hit(2, 3, 1, 0), 1);
        is("11 refused is no change", p.hit(2, 3, 1, 0), NO);
        is("11 asked is no change", p.why(2, 4, 1, 0), 0);
        is("11 the one", p.undo(), 0);
        TurretPunch q = new TurretPunch();
        for (int i = 0; i < 20; i++) {
            q.clamp(0, i % 2 == 0 ? 1 : 0);
            if (i % 3 == 2) {
                q.undo();
            }
        }
        is("11 six at most", q.count(11), 6);
    }

    private static void undoLeavesTheText() {
        TurretPunch p = new TurretPunch();
        Due.tell(p, "sheet 4,4;");
        p.hit(0, 1, 1, 0);
        is("11 the text is no change", p.undo(), 0);
        is("11 the text stays", p.count(12), 10);
    }

    // ---- promise 12

    private static void station() {
        TurretPunch p = Due.laid("sheet 8,8;tool 1,6,0,1;tool 5,2,1,99;tool 1,1,1,7;tool 3,4,0,8;tool 2,2,0,9;"
                + "hole 0,0,8,6;");
        int[][] wrong = {{-1, 0}, {5, 0}, {0, -1}, {0, 7}, {LOW, 0}, {HIGH, 0}, {0, LOW}, {0, HIGH}};
        for (int[] w : wrong) {
            is("12 bad", p.station(w[0], w[1]), BAD);
        }
        int[][] told = {{1, 6, 0, 1}, {5, 2, 1, 99}, {1, 1, 1, 7}, {3, 4, 0, 8}, {2, 2, 0, 9}};
        int[] way = {0, 1, 2, 2, 1};
        for (int s = 0; s < 5; s++) {
            for (int what = 0; what < 4; what++) {
                is("12 station " + s + " what " + what, p.station(s, what), told[s][what]);
            }
            is("12 never hit", p.station(s, 4), 0);
            is("12 sharp", p.station(s, 5), 0);
            is("12 turns to " + s, p.station(s, 6), way[s]);
        }
        p.hit(0, 0, 0, 0);
        is("12 hit", p.station(0, 4), 1);
        is("12 dull", p.station(0, 5), 1);
        p.hit(3, 1, 0, 0);
        int[] from3 = {2, 2, 1, 0, 1};
        for (int s = 0; s < 5; s++) {
            is("12 turns from 3 to " + s, p.station(s, 6), from3[s]);
        }
        is("12 not dull", p.station(3, 5), 0);
    }

    // ---- promise 13

    private static void hole() {
        TurretPunch p = new TurretPunch();
        int[][] wrong = {{-1, 0}, {4, 0}, {0, -1}, {0, 6}, {LOW, 0}, {HIGH, 0}, {0, LOW}, {0, HIGH}};
        for (int[] w : wrong) {
            is("13 bad", p.hole(w[0], w[1]), BAD);
        }
        int[] cells = {8, 9, 3, 3};
        for (int k = 0; k < 4; k++) {
            is("13 cells", p.hole(k, 4), cells[k]);
            is("13 not done", p.hole(k, 5), 0);
        }
        p.hit(0, 3, 1, 0);
        is("13 four are left", p.hole(0, 4), 4);
        is("13 not done", p.hole(0, 5), 0);
        p.hit(0, 1, 1, 0);
        is("13 none is left", p.hole(0, 4), 0);
        is("13 done", p.hole(0, 5), 1);
        is("13 the others are whole", p.hole(1, 4), 9);
        TurretPunch all = Due.laid("sheet 12,12;tool 1,1,0,9;hole 0,0,12,12;");
        is("13 the whole sheet", all.hole(0, 4), 144);
    }

    // ---- promise 14

    private static void hits() {
        TurretPunch p = new TurretPunch();
        badNibbles(p, false);
        int[][] straight = {{2, 4, 8}, {4, 3, 9}, {NONE, NONE, 3}, {NONE, 1, 3}};
        int[] turnedBy1 = {NONE, 3, 1, NONE};
        for (int k = 0; k < 4; k++) {
            for (int s = 0; s < 3; s++) {
                is("14 hole " + k + " by " + s, p.hits(k, s, 0), straight[k][s]);
            }
            is("14 does not turn", p.hits(k, 0, 1), NONE);
            is("14 turned " + k, p.hits(k, 1, 1), turnedBy1[k]);
            is("14 does not turn", p.hits(k, 2, 1), NONE);
        }
        p.nibble(0, 2, 0);
        p.clamp(1, 6);
        is("14 as if nothing were cut", p.hits(0, 0, 0), 2);
        is("14 clamps are not looked at", p.hits(3, 1, 0), 1);
        TurretPunch big = Due.laid("sheet 12,12;tool 1,1,0,1;tool 6,5,1,1;tool 5,5,0,1;hole 0,0,12,11;hole 0,11,5,1;");
        is("14 lives are not looked at", big.hits(0, 0, 0), 132);
        is("14 two by three", big.hits(0, 1, 0), 6);
        is("14 three by two", big.hits(0, 1, 1), 6);
        is("14 three by three", big.hits(0, 2, 0), 9);
        is("14 too high", big.hits(1, 2, 0), NONE);
    }

    // ---- promise 15

    private static void cell() {
        TurretPunch p = new TurretPunch();
        int[][] wrong = {{-1, 0, 0}, {10, 0, 0}, {0, -1, 0}, {0, 8, 0}, {0, 0, -1}, {0, 0, 3}, {LOW, 0, 0},
            {HIGH, 0, 0}, {0, LOW, 0}, {0, HIGH, 0}, {0, 0, LOW}, {0, 0, HIGH}};
        for (int[] w : wrong) {
            is("15 bad", p.cell(w[0], w[1], w[2]), BAD);
        }
        is("15 not cut", p.cell(1, 1, 0), 0);
        p.hit(0, 1, 1, 0);
        is("15 cut", p.cell(1, 1, 0), 1);
        is("15 cut", p.cell(2, 2, 0), 1);
        is("15 not cut", p.cell(3, 2, 0), 0);
        is("15 not cut", p.cell(2, 3, 0), 0);
        is("15 hole 0", p.cell(4, 2, 1), 0);
        is("15 hole 1", p.cell(8, 3, 1), 1);
        is("15 hole 2", p.cell(2, 7, 1), 2);
        is("15 no hole", p.cell(9, 3, 1), NONE);
        is("15 no hole", p.cell(0, 0, 1), NONE);
        is("15 clamp 0", p.cell(0, 7, 2), 0);
        is("15 clamp 0", p.cell(1, 7, 2), 0);
        is("15 no clamp", p.cell(2, 7, 2), NONE);
        is("15 no clamp", p.cell(6, 7, 2), NONE);
        is("15 clamp 1", p.cell(7, 7, 2), 1);
        is("15 clamp 1", p.cell(8, 7, 2), 1);
        is("15 no clamp", p.cell(9, 7, 2), NONE);
        is("15 above a clamp", p.cell(0, 6, 2), NONE);
    }

    // ---- promise 16

    private static void column() {
        TurretPunch p = new TurretPunch();
        int[] wrong = {-1, 2, LOW, HIGH};
        for (int c : wrong) {
            is("16 bad", p.column(c), BAD);
        }
        is("16 clamp 0", p.column(0), 0);
        is("16 clamp 1", p.column(1), 7);
        p.clamp(0, 4);
        is("16 moved", p.column(0), 4);
        is("16 not moved", p.column(1), 7);
        TurretPunch none = Due.laid("sheet 4,4;tool 1,1,0,1;");
        is("16 there is none", none.column(0), BAD);
    }

    // ---- promise 17

    private static void planIs(String name, TurretPunch p, int... want) {
        for (int i = 0; i < want.length; i++) {
            int k = i < 2 ? -1 - i : i - 2;
            is("17 " + name + ": plan(" + k + ")", p.plan(k), want[i]);
        }
        is("17 " + name + ": no more holes", p.plan(want.length - 2), BAD);
    }

    private static void plan() {
        TurretPunch p = new TurretPunch();
        int[] wrong = {-3, 4, LOW, HIGH};
        for (int k : wrong) {
            is("17 bad", p.plan(k), BAD);
        }
        planIs("at first", p, 7, 1, 0, 2, 3, 2);
        p.hit(2, 1, 1, 0);
        planIs("all hits as if nothing were cut", p, 7, 2, 0, 2, 3, 2);
        p.undo();
        p.clamp(1, 6);
        planIs("clamps are not looked at", p, 7, 1, 0, 2, 3, 2);
        p.nibble(1, 1, 0);
        planIs("one is done", p, 4, 1, 0, NONE, 3, 2);
        p.nibble(0, 0, 0);
        p.nibble(2, 1, 1);
        p.clamp(1, 3);
        p.nibble(3, 1, 0);
        planIs("all are done", p, 0, 0, NONE, NONE, NONE, NONE);
        planIs("no holes", Due.laid("sheet 4,4;tool 1,1,0,1;"), 0, 0);
        planIs("lives are not looked at", Due.laid("sheet 4,4;tool 1,1,0,1;hole 0,0,4,4;"), 16, 0, 0);
    }

    private static void planOfSeveral() {
        planIs("of several the fewest turns", Due.laid("sheet 9,9;tool 1,2,0,9;tool 2,2,0,9;hole 0,0,2,2;"),
                2, 0, 0);
        planIs("hits and turns together", Due.laid("sheet 9,9;tool 1,1,0,9;tool 2,2,0,9;hole 0,0,2,2;"), 1, 1, 2);
        planIs("straight before turned", Due.laid("sheet 9,9;tool 2,2,1,9;hole 0,0,4,4;"), 4, 0, 0);
        planIs("turned is better", Due.laid("sheet 9,9;tool 1,3,1,9;hole 0,0,3,4;"), 4, 0, 1);
        planIs("straight by a far one", Due.laid("sheet 9,9;tool 4,4,0,9;tool 3,3,0,9;tool 3,3,0,9;hole 0,0,3,3;"),
                1, 1, 2);
        planIs("the first of two as near",
                Due.laid("sheet 9,9;tool 6,6,0,9;tool 2,2,0,9;tool 6,6,0,9;tool 2,2,0,9;hole 0,0,2,2;"), 1, 1, 2);
        planIs("by the first hole first", Due.laid("sheet 9,9;tool 5,5,0,9;tool 2,1,0,9;tool 1,2,0,9;"
                + "hole 0,0,2,2;hole 3,3,2,2;"), 4, 1, 2, 2);
        planIs("round the ring, not back", Due.laid("sheet 9,9;tool 6,6,0,9;tool 1,5,0,9;tool 5,1,0,9;tool 2,2,0,9;"
                + "hole 0,0,1,5;hole 2,0,5,1;hole 2,2,2,2;"), 3, 3, 2, 4, 6);
        planIs("a hit more for a turn less", Due.laid("sheet 9,9;tool 6,6,0,9;tool 1,5,0,9;tool 5,1,0,9;tool 1,4,0,9;"
                + "hole 0,0,1,5;hole 2,0,5,1;hole 2,2,1,4;"), 4, 2, 6, 4, 6);
        planIs("to both sides, the nearer first", Due.laid("sheet 9,9;tool 6,6,0,9;tool 1,5,0,9;tool 6,6,0,9;"
                + "tool 6,6,0,9;tool 5,1,0,9;tool 6,6,0,9;hole 0,0,1,5;hole 2,0,5,1;"), 2, 4, 2, 8);
        planIs("the first hole decides, not the second", Due.laid("sheet 9,9;tool 1,2,0,9;tool 1,4,0,9;tool 2,1,0,9;"
                + "tool 6,6,0,9;tool 4,1,0,9;tool 6,6,0,9;hole 0,0,1,4;hole 2,0,4,1;"), 3, 2, 0, 8);
        TurretPunch here = Due.laid("sheet 9,9;tool 1,1,0,9;tool 1,1,0,9;hole 0,0,2,1;hole 0,2,2,1;");
        planIs("from 0", here, 4, 0, 0, 0);
        here.hit(1, 0, 0, 0);
        planIs("from 1", here, 4, 0, 2, 2);
    }

    private static void planNone() {
        TurretPunch p = Due.laid("sheet 9,9;tool 2,2,0,9;tool 3,1,0,9;hole 0,0,2,2;hole 4,0,1,3;hole 6,0,3,1;");
        planIs("one can not be", p, NONE, NONE, NONE, NONE, NONE);
        p.nibble(0, 0, 0);
        planIs("one can not be, one is done", p, NONE, NONE, NONE, NONE, NONE);
        TurretPunch turns = Due.laid("sheet 9,9;tool 3,1,1,9;hole 4,0,1,3;");
        planIs("it can, turned", turns, 1, 0, 1);
    }

    // ---- promise 18

    private static void drawn() {
        TurretPunch p = new TurretPunch();
        is("18 bad", p.drawn(-1), BAD);
        is("18 bad", p.drawn(LOW), BAD);
        is("18 the first", p.drawn(0), '.');
        is("18 the last", p.drawn(87), '/');
        is("18 not so many", p.drawn(88), NONE);
        is("18 not so many", p.drawn(HIGH), NONE);
        p.nibble(2, 2, 0);
        p.hit(0, 1, 1, 0);
        p.clamp(0, 2);
        DUE.holds("18 drawn", Due.drawing(p).equals("........../.oo##.###./.oo##.###./......###./"
                + "........../..o......./..o...###./..cc...cc./"));
        p.clamp(0, 0);
        is("18 cut, no clamp on it any more", p.drawn(79), 'o');
        DUE.holds("18 the smallest", Due.drawing(Due.laid("sheet 3,3;tool 1,1,0,1;hole 2,2,1,1;clamp 0;"))
                .equals(".../.../cc#/"));
        is("18 the largest", Due.drawing(Due.laid("sheet 12,12;tool 1,1,0,1;")).length(), 156);
    }

    // ---- promise 19

    private static void count() {
        TurretPunch p = new TurretPunch();
        int[] wrong = {-1, 13, LOW, HIGH};
        for (int what : wrong) {
            is("19 bad", p.count(what), BAD);
        }
        p.nibble(0, 2, 0);
        p.nibble(1, 1, 1);
        p.hit(2, 6, 6, 0);
        p.sharpen(2);
        p.clamp(0, 3);
        p.write('x');
        int[] counts = {10, 8, 3, 4, 2, 12, 3, 1, 18, 2, 2, 5, 1};
        for (int what = 0; what < counts.length; what++) {
            is("19 count " + what, p.count(what), counts[what]);
        }
        p.undo();
        p.undo();
        p.undo();
        int[] before = {10, 8, 3, 4, 2, 11, 2, 0, 17, 2, 1, 2, 1};
        for (int what = 0; what < before.length; what++) {
            is("19 undone, count " + what, p.count(what), before[what]);
        }
    }
}
