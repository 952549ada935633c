/** The edges of "What it is", of "Terms" and of THE TEXT, sentence by sentence. */
public final class TextEdgesTest {
    private static final int BAD = -1, NO = -2, FULL = -3, NONE = -4;
    private static final String TOOL = "tool 1,1,0,9;";
    private static final Due DUE = new Due();

    public static void main(String[] args) {
        sidesOfSheets();
        cellsOfSheets();
        callsOfAnObject();
        numberOfStations();
        ringOfStations();
        sidesOfTools();
        turningOfTools();
        livesOfTools();
        livesAreWornOut();
        numberOfHoles();
        cellsOfHoles();
        holesShareNoCell();
        numberOfClamps();
        rowOfClamps();
        columnsOfClamps();
        clampsShareNoCell();
        lengthOfTheText();
        partsOfAnItem();
        figuresOfNumbers();
        partingOfNumbers();
        howManyNumbers();
        sheetOnceAndFirst();
        nextInAnyOrder();
        holesWithinTheSheet();
        placeOfTheFault();
        oneTooMany();
        textsThatAreLaid();
        atFirst();
        asLaid();
        textStays();
        DUE.end();
    }

    private static Run laid(String text) {
        return Run.laid(DUE, text);
    }

    /** FAULT of a text; one that has any is not LAID, and what was LAID stays. */
    private static void fault(int want, String text) {
        Run run = new Run(DUE).write(text);
        DUE.is("fault() of \"" + text + "\"", run.wouldAnswer("fault"), want);
        if (want != NONE) {
            DUE.is("lay() of \"" + text + "\"", run.wouldAnswer("lay"), NO);
        }
    }

    /** Behind a SHEET of 12 by 12 an item is, or is not, as it should be. */
    private static void fits(String item) {
        fault(NONE, "sheet 12,12;" + item);
    }

    private static void fitsNot(String item) {
        fault(12, "sheet 12,12;" + item);
    }

    // ---- what it is

    private static void sidesOfSheets() {
        DUE.sentence("A SHEET has CELLS (x, y), x 0 to W - 1, y 0 to H - 1 (W and H 3 to 12).");
        for (int side = 0; side <= 99; side++) {
            int want = side >= 3 && side <= 12 ? NONE : 0;
            fault(want, "sheet " + side + ",7;");
            fault(want, "sheet 7," + side + ";");
            fault(want, "sheet " + side + "," + side + ";");
        }
    }

    private static void cellsOfSheets() {
        DUE.sentence("x 0 to W - 1, y 0 to H - 1");
        int[][] sides = {{3, 3}, {3, 12}, {12, 3}, {12, 12}, {5, 9}};
        for (int[] side : sides) {
            int w = side[0];
            int h = side[1];
            Run run = laid("sheet " + w + "," + h + ";" + TOOL);
            run.is(w, "count", 0).is(h, "count", 1);
            run.is(0, "cell", 0, 0, 0).is(0, "cell", w - 1, 0, 0).is(0, "cell", 0, h - 1, 0)
                    .is(0, "cell", w - 1, h - 1, 0);
            run.is(BAD, "cell", -1, 0, 0).is(BAD, "cell", 0, -1, 0).is(BAD, "cell", w, 0, 0)
                    .is(BAD, "cell", 0, h, 0).is(BAD, "cell", w, h - 1, 0).is(BAD, "cell", w - 1, h, 0);
        }
    }

    private static void callsOfAnObject() {
        DUE.sentence("An object is used for at most 512 calls after it has been made");
        Run run = new Run(DUE);
        for (int i = 0; i < 508; i++) {
            run.is(i % 2, "clamp", 0, 1 - i % 2);
        }
        run.is(508, "count", 7).is(6, "count", 11).is(5, "undo").is(507, "count", 7);
    }

    // ---- terms: stations

    private static void numberOfStations() {
        DUE.sentence("A TURRET has STATIONS 0, 1, .. (1 to 6)");
        for (int n = 1; n <= 6; n++) {
            Run run = laid("sheet 4,4;" + TOOL.repeat(n));
            run.is(n, "lay").is(n, "count", 2).is(1, "station", n - 1, 0).is(BAD, "station", n, 0);
        }
        fault(NONE, "sheet 4,4;");
        new Run(DUE).write("sheet 4,4;").is(NO, "lay");
        fault(10 + 6 * TOOL.length(), "sheet 4,4;" + TOOL.repeat(7));
    }

    private static void ringOfStations() {
        DUE.sentence("round in a ring, with a TOOL each");
        String[] ways = {"0", "01", "011", "0121", "01221", "012321"};
        for (int n = 1; n <= 6; n++) {
            for (int here = 0; here < n; here++) {
                Run run = laid("sheet 4,4;" + TOOL.repeat(n) + "hole 0,0,1,1;").is(1, "hit", here, 0, 0, 0);
                run.is(here, "count", 10);
                for (int s = 0; s < n; s++) {
                    int way = ways[n - 1].charAt((s - here + n) % n) - '0';
                    run.is(way, "station", s, 6);
                }
            }
        }
        laid("sheet 4,4;" + TOOL.repeat(6) + "hole 0,0,2,1;").is(1, "station", 5, 6).is(1, "hit", 5, 0, 0, 0)
                .is(1, "count", 6).is(1, "station", 0, 6).is(1, "hit", 0, 1, 0, 0).is(2, "count", 6);
    }

    private static void sidesOfTools() {
        DUE.sentence("so wide and so high (1 to 6 each)");
        for (int side = 1; side <= 6; side++) {
            fits("tool " + side + ",1,0,1;");
            fits("tool 1," + side + ",0,1;");
        }
        int[] wrong = {0, 7, 10, 16, 60, 99};
        for (int side : wrong) {
            fitsNot("tool " + side + ",1,0,1;");
            fitsNot("tool 1," + side + ",0,1;");
        }
        laid("sheet 3,3;tool 6,1,0,9;tool 1,6,0,9;").is(6, "station", 0, 0).is(1, "station", 0, 1)
                .is(1, "station", 1, 0).is(6, "station", 1, 1);
    }

    private static void turningOfTools() {
        DUE.sentence("that TURNS (1) or not (0)");
        fits("tool 1,1,0,1;");
        fits("tool 1,1,1,1;");
        int[] wrong = {2, 9, 10, 11, 99};
        for (int turns : wrong) {
            fitsNot("tool 1,1," + turns + ",1;");
        }
        laid("sheet 4,4;tool 1,1,0,1;tool 1,1,1,1;").is(0, "station", 0, 2).is(1, "station", 1, 2);
    }

    private static void livesOfTools() {
        DUE.sentence("with a LIFE of so many HITS (1 to 99)");
        fitsNot("tool 1,1,0,0;");
        fits("tool 1,1,0,1;");
        fits("tool 1,1,0,99;");
        fitsNot("tool 1,1,0,100;");
        laid("sheet 4,4;tool 1,1,0,1;tool 1,1,0,99;").is(1, "station", 0, 3).is(99, "station", 1, 3);
    }

    private static void livesAreWornOut() {
        DUE.sentence("with a LIFE of so many HITS (1 to 99)");
        Run run = laid("sheet 12,12;tool 1,1,0,1;tool 1,1,0,99;hole 0,0,12,12;");
        run.is(0, "station", 0, 5).is(1, "hit", 0, 0, 11, 0).is(1, "station", 0, 5).is(NO, "hit", 0, 1, 11, 0);
        for (int i = 0; i < 99; i++) {
            run.is(0, "station", 1, 5).is(1, "hit", 1, i % 12, i / 12, 0);
        }
        run.is(99, "station", 1, 4).is(1, "station", 1, 5).is(NO, "hit", 1, 3, 8, 0).is(99, "sharpen", 1)
                .is(0, "station", 1, 5).is(1, "hit", 1, 3, 8, 0);
    }

    // ---- terms: holes

    private static void numberOfHoles() {
        DUE.sentence("HOLES 0, 1, .. (5 at most)");
        String[] holes = {"hole 0,0,1,1;", "hole 2,0,1,1;", "hole 4,0,1,1;", "hole 6,0,1,1;", "hole 8,0,1,1;"};
        StringBuilder text = new StringBuilder("sheet 12,3;" + TOOL);
        for (int n = 0; n <= 5; n++) {
            Run run = laid(text.toString()).is(n, "count", 3).is(BAD, "hole", n, 0);
            if (n > 0) {
                run.is(2 * n - 2, "hole", n - 1, 0);
            }
            text.append(n < 5 ? holes[n] : "");
        }
        fault(text.length(), text + "hole 10,0,1,1;");
    }

    private static void cellsOfHoles() {
        DUE.sentence("are of CELLS: from (x, y) so wide and so high");
        Run run = laid("sheet 7,8;" + TOOL + "hole 2,3,3,2;");
        for (int x = 0; x < 7; x++) {
            for (int y = 0; y < 8; y++) {
                boolean of = x >= 2 && x <= 4 && y >= 3 && y <= 4;
                run.is(of ? 0 : NONE, "cell", x, y, 1);
            }
        }
        run.is(6, "hole", 0, 4);
    }

    private static void holesShareNoCell() {
        DUE.sentence("no CELL is of two");
        String first = "sheet 6,6;hole 2,2,2,2;";
        for (int x = 0; x < 6; x++) {
            for (int y = 0; y < 6; y++) {
                boolean shared = (x == 2 || x == 3) && (y == 2 || y == 3);
                fault(shared ? first.length() : NONE, first + "hole " + x + "," + y + ",1,1;");
            }
        }
        String[] shared = {"hole 2,2,2,2;", "hole 0,0,6,6;", "hole 0,0,3,3;", "hole 3,3,3,3;", "hole 0,3,6,1;",
            "hole 2,0,1,6;"};
        for (String hole : shared) {
            fault(first.length(), first + hole);
        }
        String round = first + "hole 0,0,2,6;hole 4,0,2,6;hole 2,0,2,2;hole 2,4,2,2;";
        fault(NONE, round);
        laid(round + TOOL).draws("######/".repeat(6));
    }

    // ---- terms: clamps

    private static void numberOfClamps() {
        DUE.sentence("CLAMPS (2 at most, 0, 1)");
        laid("sheet 8,4;" + TOOL).is(0, "count", 4).is(BAD, "column", 0);
        laid("sheet 8,4;" + TOOL + "clamp 2;").is(1, "count", 4).is(2, "column", 0).is(BAD, "column", 1);
        laid("sheet 8,4;" + TOOL + "clamp 2;clamp 0;").is(2, "count", 4).is(2, "column", 0).is(0, "column", 1)
                .is(BAD, "column", 2);
        fault(26, "sheet 8,4;clamp 0;clamp 2;clamp 4;");
    }

    private static void rowOfClamps() {
        DUE.sentence("hold the row y = H - 1");
        int[] heights = {3, 7, 12};
        for (int h : heights) {
            Run run = laid("sheet 5," + h + ";" + TOOL + "clamp 1;");
            for (int y = 0; y < h; y++) {
                run.is(y == h - 1 ? 0 : NONE, "cell", 1, y, 2).is(y == h - 1 ? 0 : NONE, "cell", 2, y, 2);
            }
        }
    }

    private static void columnsOfClamps() {
        DUE.sentence("CLAMP at column c holds CELLS (c, H - 1) and (c + 1, H - 1) (c 0 to W - 2)");
        int[] widths = {3, 8, 12};
        for (int w : widths) {
            String sheet = "sheet " + w + ",3;";
            for (int c = 0; c <= w - 2; c++) {
                Run run = laid(sheet + TOOL + "clamp " + c + ";");
                for (int x = 0; x < w; x++) {
                    run.is(x == c || x == c + 1 ? 0 : NONE, "cell", x, 2, 2);
                }
            }
            fault(sheet.length(), sheet + "clamp " + (w - 1) + ";");
            fault(sheet.length(), sheet + "clamp " + w + ";");
            fault(sheet.length(), sheet + "clamp 99;");
        }
    }

    private static void clampsShareNoCell() {
        DUE.sentence("no CELL is held by two");
        for (int c = 0; c <= 8; c++) {
            boolean shared = c >= 3 && c <= 5;
            fault(shared ? 19 : NONE, "sheet 10,4;clamp 4;clamp " + c + ";");
        }
        fault(NONE, "sheet 4,4;clamp 0;clamp 2;");
        fault(NONE, "sheet 4,4;clamp 2;clamp 0;");
    }

    // ---- the text

    /** A text of 200 letters that tells of all there can be: 6 stations, 5 holes, 2 clamps. */
    private static String longest() {
        return "sheet 12,12;" + "tool 01,01,00,99;".repeat(4) + "tool 1,1,0,99;".repeat(2) + "hole 00,00,01,01;"
                + "hole 02,0,1,1;hole 4,0,1,1;hole 6,0,1,1;hole 08,00,01,01;clamp 00;clamp 10;";
    }

    private static void lengthOfTheText() {
        DUE.sentence("THE TEXT is letters (200 at most).");
        String longest = longest();
        DUE.is("letters of the longest text", longest.length(), 200);
        Run run = new Run(DUE).write(longest.substring(0, 199)).is(199, "count", 12).is(191, "fault").is(NO, "lay");
        run.is(200, "write", ';').is(NONE, "fault").is(FULL, "write", ';').is(200, "count", 12).is(6, "lay");
        run.is(200, "wipe").is(0, "count", 12).is(1, "write", ';');
    }

    private static void partsOfAnItem() {
        DUE.sentence("A TEXT is ITEMS one behind the other, each a word, a blank, what is told here, and a ; behind it");
        fault(NONE, "");
        String[] items = {"tool 2,3,1,9;", "hole 2,3,1,2;", "clamp 5;"};
        for (String item : items) {
            fits(item);
            for (int i = 0; i < item.length(); i++) {
                String without = item.substring(0, i) + item.substring(i + 1);
                fitsNot(without);
                fitsNot(item.substring(0, i) + " " + item.substring(i));
                if (i > 0) {
                    fitsNot(item.substring(0, i));
                    fitsNot(item.substring(0, i - 1) + ";" + item.substring(i - 1));
                }
            }
            fitsNot(item.substring(0, 1).toUpperCase() + item.substring(1));
            fault(12 + item.length(), "sheet 12,12;" + item + " ");
            fault(12 + item.length(), "sheet 12,12;" + item + ";");
        }
        for (int i = 1; i < 11; i++) {
            fault(0, "sheet 12,12;".substring(0, i));
            fault(0, "sheet 12,12;".substring(0, i) + " " + "sheet 12,12;".substring(i));
        }
        String[] words = {"tools 1,1,0,1;", "too 1,1,0,1;", "ttool 1,1,0,1;", "sheets 4,4;", "item 1;", "1;", ",;"};
        for (String word : words) {
            fitsNot(word);
        }
    }

    private static void figuresOfNumbers() {
        DUE.sentence("numbers have one or two figures");
        String[] before = {"tool ", "tool 1,", "tool 1,1,", "tool 1,1,0,", "hole ", "hole 1,", "hole 1,1,",
            "hole 1,1,1,", "clamp "};
        String[] behind = {",1,0,9;", ",0,9;", ",9;", ";", ",1,1,1;", ",1,1;", ",1;", ";", ";"};
        String[] wrong = {"", "001", "000001", "-1", "+1", "a", "1a", "a1", "1.", ".1", "/", ":", "1 ", " 1", "0x1"};
        for (int i = 0; i < before.length; i++) {
            fits(before[i] + "1" + behind[i]);
            fits(before[i] + "01" + behind[i]);
            for (String number : wrong) {
                fitsNot(before[i] + number + behind[i]);
            }
        }
        fits("clamp 9;");
        fits("clamp 10;");
        fits("clamp 0;");
        fits("clamp 00;");
        fitsNot("clamp 010;");
        fault(0, "sheet 012,12;");
        fault(0, "sheet 12,012;");
        fault(NONE, "sheet 03,12;");
    }

    private static void partingOfNumbers() {
        DUE.sentence("and are parted by , :");
        String[] wrong = {".", ";", ",,", " ", ", ", " ,", ":", "/", "-", "+", ""};
        for (String parting : wrong) {
            fitsNot("tool 1" + parting + "1,0,9;");
            fitsNot("tool 1,1" + parting + "0,9;");
            fitsNot("tool 1,1,0" + parting + "9;");
            fault(0, "sheet 4" + parting + "4;");
        }
        fitsNot("tool ,1,1,0,9;");
        fitsNot("tool 1,1,0,9,;");
        fitsNot("clamp 1,;");
    }

    private static void howManyNumbers() {
        DUE.sentence("sheet W,H the SHEET");
        fault(0, "sheet 4;");
        fault(0, "sheet 4,4,4;");
        DUE.sentence("tool A,B,T,L the next STATION: its TOOL is A wide, B high, TURNS (T 1) or not (0), of LIFE L");
        fitsNot("tool 1,1,0;");
        fitsNot("tool 1,1,0,9,9;");
        laid("sheet 12,12;tool 2,3,1,45;").is(2, "station", 0, 0).is(3, "station", 0, 1).is(1, "station", 0, 2)
                .is(45, "station", 0, 3);
        DUE.sentence("hole X,Y,A,B the next HOLE: from (X, Y) on, A wide, B high");
        fitsNot("hole 1,1,1;");
        fitsNot("hole 1,1,1,1,1;");
        laid("sheet 12,12;" + TOOL + "hole 7,10,3,2;").is(7, "hole", 0, 0).is(10, "hole", 0, 1).is(3, "hole", 0, 2)
                .is(2, "hole", 0, 3);
        DUE.sentence("clamp C the next CLAMP: at column C");
        fitsNot("clamp ;");
        fitsNot("clamp 1,1;");
        laid("sheet 12,12;" + TOOL + "clamp 10;").is(10, "column", 0);
    }

    private static void sheetOnceAndFirst() {
        DUE.sentence("the SHEET; once, first of all ITEMS");
        String[] items = {TOOL, "hole 0,0,1,1;", "clamp 0;"};
        for (String item : items) {
            fault(0, item);
            fault(0, item + "sheet 4,4;");
            fault(10 + item.length(), "sheet 4,4;" + item + "sheet 4,4;");
        }
        fault(10, "sheet 4,4;sheet 4,4;");
        fault(10, "sheet 4,4;sheet 5,5;" + TOOL);
    }

    private static void nextInAnyOrder() {
        DUE.sentence("A TEXT is ITEMS one behind the other");
        Run run = laid("sheet 9,4;clamp 7;hole 3,0,1,1;tool 1,2,0,9;hole 1,0,1,1;clamp 5;tool 2,1,0,9;");
        run.is(1, "station", 0, 0).is(2, "station", 1, 0).is(3, "hole", 0, 0).is(1, "hole", 1, 0)
                .is(7, "column", 0).is(5, "column", 1);
    }

    private static void holesWithinTheSheet() {
        DUE.sentence("A wide, B high (1 or more; all its CELLS are of the SHEET)");
        String sheet = "sheet 5,4;";
        for (int from = 0; from <= 6; from++) {
            for (int size = 0; size <= 6; size++) {
                boolean wideFits = size >= 1 && from + size <= 5;
                fault(wideFits ? NONE : 10, sheet + "hole " + from + ",0," + size + ",1;");
                boolean highFits = size >= 1 && from + size <= 4;
                fault(highFits ? NONE : 10, sheet + "hole 0," + from + ",1," + size + ";");
            }
        }
        fault(NONE, sheet + "hole 0,0,5,4;");
        fault(10, sheet + "hole 99,99,99,99;");
        fault(10, sheet + "hole 0,0,0,0;");
        fault(NONE, "sheet 12,12;hole 0,0,12,12;");
        fault(NONE, "sheet 12,12;hole 11,11,1,1;");
        fault(12, "sheet 12,12;hole 11,11,2,1;");
        fault(12, "sheet 12,12;hole 11,11,1,2;");
    }

    private static void placeOfTheFault() {
        DUE.sentence("FAULT: the place of the first letter of the first ITEM that is not so");
        fault(0, "x");
        fault(0, "sheet 4,4");
        fault(10, "sheet 4,4;x");
        fault(23, "sheet 4,4;" + TOOL + "clamp 9;tool 9,9,9,9;");
        fault(10, "sheet 4,4;clamp 3;" + TOOL + "clamp 9;");
        fault(23, "sheet 4,4;" + TOOL + "tool 1,1,0,9");
        Run grows = new Run(DUE).is(NONE, "fault");
        String text = "sheet 4,4;clamp 1;" + TOOL;
        for (int i = 0; i < text.length(); i++) {
            grows.write(text.substring(i, i + 1));
            int start = i < 10 ? 0 : i < 18 ? 10 : 18;
            grows.is(text.charAt(i) == ';' ? NONE : start, "fault");
        }
        String full = "sheet 4,4;" + "y".repeat(190);
        fault(10, full);
        fault(0, " ".repeat(200));
    }

    private static void oneTooMany() {
        DUE.sentence("(or is one too many)");
        fault(10, "sheet 4,4;sheet 4,4;");
        String six = "sheet 12,4;" + TOOL.repeat(6);
        fault(six.length(), six + TOOL);
        fault(six.length() + 8, six + "clamp 0;" + TOOL + "clamp 9;");
        String five = "sheet 12,4;hole 0,0,1,1;hole 1,0,1,1;hole 2,0,1,1;hole 3,0,1,1;hole 4,0,1,1;";
        fault(NONE, five);
        fault(five.length(), five + "hole 5,0,1,1;");
        fault(27, "sheet 12,4;clamp 0;clamp 2;clamp 4;");
        fault(NONE, longest());
    }

    private static void textsThatAreLaid() {
        DUE.sentence("LAID is a TEXT without FAULT that tells of a SHEET and a STATION (NO else;");
        new Run(DUE).refused(NO, "lay");
        new Run(DUE).write("sheet 4,4;").refused(NO, "lay").write("hole 0,0,1,1;clamp 0;").refused(NO, "lay")
                .write(TOOL).is(1, "lay");
        new Run(DUE).write(TOOL).refused(NO, "lay");
        new Run(DUE).write("sheet 4,4;" + TOOL + "x").refused(NO, "lay");
        new Run(DUE).write("sheet 4,4;" + TOOL + "clamp 3;").refused(NO, "lay");
        new Run(DUE).write("sheet 3,3;tool 6,6,0,1;").is(1, "lay").is(0, "count", 3).is(0, "count", 4);
        new Run(DUE).write(longest()).is(6, "lay").is(12, "count", 0).is(12, "count", 1).is(6, "count", 2)
                .is(5, "count", 3).is(2, "count", 4);
    }

    private static void atFirst() {
        String first = "sheet 10,8;tool 2,2,0,40;tool 3,1,1,12;tool 1,1,0,99;hole 1,1,4,2;hole 6,1,3,3;"
                + "hole 2,5,1,3;hole 6,6,3,1;clamp 0;clamp 7;";
        DUE.sentence("at first " + first + ")");
        laid(first).is(first.length(), "wipe").asks(new Run(DUE).answers(), "as of a new object");
    }

    private static void asLaid() {
        DUE.sentence("nothing is cut, no TURNS, STATION 0 is HERE");
        String text = "sheet 5,4;tool 1,1,0,9;tool 2,1,1,9;hole 0,0,2,2;hole 3,0,1,4;clamp 1;";
        Run used = laid(text).is(2, "hit", 1, 0, 0, 0).is(4, "nibble", 1, 0, 0).is(1, "clamp", 0, 0).is(1, "sharpen", 1)
                .is(2, "hit", 1, 0, 1, 0).is(2, "lay");
        used.is(0, "count", 8).is(0, "count", 6).is(0, "count", 10).is(0, "count", 5).is(0, "count", 7)
                .is(0, "count", 9).is(0, "count", 11).is(NO, "undo");
        used.asks(laid(text).is(NO, "undo").answers(), "as if laid on a new object");
        Run fewer = laid(text).is(2, "hit", 1, 0, 0, 0);
        fewer.is(text.length(), "wipe").write("sheet 3,3;" + TOOL).is(1, "lay")
                .asks(laid("sheet 3,3;" + TOOL).answers(), "as if laid on a new object");
    }

    private static void textStays() {
        DUE.sentence("LAID, THE TEXT stays.");
        String text = "sheet 4,4;" + TOOL;
        laid(text).is(text.length(), "count", 12).is(NONE, "fault").is(1, "lay").write("x").is(text.length(), "fault")
                .refused(NO, "lay").is(text.length() + 1, "wipe").is(4, "count", 0).is(NONE, "fault").is(NO, "lay")
                .is(4, "count", 0);
    }
}
