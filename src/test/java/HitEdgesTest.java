/** The edges of part 2 of the document, sentence by sentence: HITS, NIBBLED, DONE. */
public final class HitEdgesTest {
    private static final int NO = -2, NONE = -4;
    private static final Due DUE = new Due();

    public static void main(String[] args) {
        straightAndTurned();
        refusedSinceItDoesNotTurn();
        refusedOutsideTheSheet();
        refusedOutsideAHole();
        refusedUnderAClamp();
        refusedWhenAllIsCut();
        refusedWhenDull();
        lowestTellsWhy();
        lowestTellsWhyWhenDull();
        refusedChangesNothing();
        allAreCut();
        shorterWayRound();
        toolFitsTheHole();
        sideBySide();
        lastOneOfARow();
        lastRow();
        lastOfBoth();
        leftOutWhenCut();
        leftOutAsTheyCome();
        leftOutUnderAClamp();
        refusedAsAWhole();
        refusedWhenDullOnTheWay();
        nibblingTurnsOnce();
        done();
        DUE.end();
    }

    private static Run laid(String text) {
        return Run.laid(DUE, text);
    }

    // ---- a hit

    private static void straightAndTurned() {
        DUE.sentence("straight or (if it TURNS) turned (as wide as it is high, as high as it is wide):"
                + " its CELLS are from (x, y) on.");
        String text = "sheet 6,5;tool 3,2,1,9;hole 0,0,6,5;";
        laid(text).is(6, "hit", 0, 1, 1, 0).draws("######/#ooo##/#ooo##/######/######/");
        laid(text).is(6, "hit", 0, 1, 1, 1).draws("######/#oo###/#oo###/#oo###/######/");
        laid("sheet 3,3;tool 1,1,0,9;hole 2,2,1,1;").is(1, "hit", 0, 2, 2, 0).draws(".../.../..o/");
    }

    private static void refusedSinceItDoesNotTurn() {
        DUE.sentence("1 it is turned and the TOOL does not TURN");
        Run run = laid("sheet 4,4;tool 2,1,0,9;tool 2,1,1,9;tool 1,1,0,9;hole 0,0,4,4;");
        run.is(0, "why", 0, 0, 0, 0).is(1, "why", 0, 0, 0, 1).refused(NO, "hit", 0, 0, 0, 1);
        run.is(0, "why", 1, 0, 0, 1).is(0, "why", 2, 0, 0, 0).is(1, "why", 2, 0, 0, 1);
        run.is(2, "hit", 1, 0, 0, 1);
    }

    private static void refusedOutsideTheSheet() {
        DUE.sentence("2 one of its CELLS is not of the SHEET");
        Run run = laid("sheet 5,4;tool 2,3,1,9;tool 6,6,0,9;tool 1,1,0,9;hole 0,0,5,4;");
        run.is(0, "why", 0, 3, 1, 0).is(2, "why", 0, 4, 1, 0).is(2, "why", 0, 3, 2, 0);
        run.is(0, "why", 0, 2, 2, 1).is(2, "why", 0, 3, 2, 1).is(2, "why", 0, 2, 3, 1);
        run.is(2, "why", 1, 0, 0, 0).is(0, "why", 2, 4, 3, 0).is(2, "why", 2, 5, 3, 0).is(2, "why", 2, 4, 4, 0);
        run.is(2, "why", 2, 99, 0, 0).is(2, "why", 2, 0, 99, 0).is(2, "why", 0, 99, 99, 1);
        run.refused(NO, "hit", 0, 4, 1, 0).refused(NO, "hit", 0, 99, 99, 0).is(6, "hit", 0, 3, 1, 0);
        Run largest = laid("sheet 12,12;tool 6,6,0,9;hole 0,0,12,12;");
        largest.is(0, "why", 0, 6, 6, 0).is(2, "why", 0, 7, 6, 0).is(2, "why", 0, 6, 7, 0).is(36, "hit", 0, 6, 6, 0);
    }

    private static void refusedOutsideAHole() {
        DUE.sentence("3 is of no HOLE, or of another one than the first");
        Run run = laid("sheet 7,5;tool 2,1,1,9;tool 1,1,0,9;hole 1,1,2,2;hole 3,1,2,2;hole 1,3,2,1;");
        run.is(0, "why", 0, 1, 1, 0).is(3, "why", 0, 0, 1, 0).is(3, "why", 0, 2, 1, 0).is(0, "why", 0, 3, 1, 0)
                .is(3, "why", 0, 4, 1, 0);
        run.is(0, "why", 0, 1, 1, 1).is(3, "why", 0, 1, 0, 1).is(3, "why", 0, 1, 2, 1).is(3, "why", 0, 1, 3, 1);
        run.is(3, "why", 1, 0, 0, 0).is(3, "why", 1, 1, 0, 0).is(0, "why", 1, 2, 2, 0).is(3, "why", 1, 6, 4, 0);
        run.refused(NO, "hit", 0, 2, 1, 0).refused(NO, "hit", 0, 4, 1, 0);
        laid("sheet 6,3;tool 3,1,0,9;hole 0,0,1,1;hole 2,0,1,1;").is(3, "why", 0, 0, 0, 0);
        laid("sheet 6,3;tool 1,1,0,9;").is(3, "why", 0, 0, 0, 0);
    }

    private static void refusedUnderAClamp() {
        DUE.sentence("4 is held by a CLAMP");
        Run run = laid("sheet 8,4;tool 2,1,1,9;tool 1,1,0,9;tool 6,2,0,9;hole 0,0,8,4;clamp 2;clamp 6;");
        int[] inTheRow = {0, 4, 4, 4, 0, 4, 4, 2};
        for (int x = 0; x < inTheRow.length; x++) {
            run.is(inTheRow[x], "why", 0, x, 3, 0).is(x == 7 ? 2 : 0, "why", 0, x, 2, 0);
        }
        run.is(0, "why", 0, 1, 2, 1).is(4, "why", 0, 2, 2, 1).is(4, "why", 0, 3, 2, 1).is(0, "why", 0, 4, 2, 1);
        run.is(0, "why", 1, 1, 3, 0).is(4, "why", 1, 2, 3, 0).is(4, "why", 1, 3, 3, 0).is(0, "why", 1, 4, 3, 0);
        run.is(0, "why", 2, 0, 1, 0).is(4, "why", 2, 0, 2, 0);
        run.refused(NO, "hit", 0, 1, 3, 0).is(2, "clamp", 0, 3).is(4, "why", 0, 2, 3, 0).is(2, "hit", 0, 1, 3, 0);
    }

    private static void refusedWhenAllIsCut() {
        DUE.sentence("5 all of them are cut");
        Run run = laid("sheet 4,4;tool 2,2,0,9;tool 1,1,0,9;hole 0,0,4,4;");
        run.is(1, "hit", 1, 1, 1, 0).is(1, "hit", 1, 2, 1, 0).is(1, "hit", 1, 1, 2, 0).is(0, "why", 0, 1, 1, 0);
        run.is(5, "why", 1, 1, 1, 0).is(0, "why", 1, 2, 2, 0).is(1, "hit", 0, 1, 1, 0);
        run.is(5, "why", 0, 1, 1, 0).is(5, "why", 1, 2, 2, 0).refused(NO, "hit", 0, 1, 1, 0).is(0, "why", 0, 0, 0, 0);
    }

    private static void refusedWhenDull() {
        DUE.sentence("6 the TOOL is DULL: it has been HIT as often as its LIFE.");
        Run run = laid("sheet 6,4;tool 1,1,0,2;tool 1,1,0,1;hole 0,0,6,4;");
        run.is(0, "why", 0, 5, 3, 0).is(1, "hit", 0, 0, 0, 0).is(0, "station", 0, 5).is(0, "why", 0, 5, 3, 0);
        run.is(1, "hit", 0, 1, 0, 0).is(1, "station", 0, 5).is(6, "why", 0, 5, 3, 0).refused(NO, "hit", 0, 5, 3, 0);
        run.is(0, "why", 1, 5, 3, 0).is(1, "undo").is(0, "station", 0, 5).is(0, "why", 0, 5, 3, 0);
        run.is(1, "hit", 0, 2, 0, 0).is(6, "why", 0, 5, 3, 0).is(2, "sharpen", 0).is(0, "why", 0, 5, 3, 0);
    }

    private static void lowestTellsWhy() {
        DUE.sentence("It is refused (the lowest of these tells why)");
        Run run = laid("sheet 6,4;tool 2,1,0,1;tool 2,1,1,1;tool 1,1,0,99;hole 0,3,2,1;hole 2,3,2,1;hole 0,0,4,1;"
                + "hole 4,0,2,2;clamp 2;");
        run.is(1, "why", 0, 5, 3, 1).is(1, "why", 0, 5, 1, 1).is(1, "why", 2, 2, 3, 1);
        run.is(2, "why", 1, 5, 3, 0).is(2, "why", 1, 5, 1, 0).is(3, "why", 1, 1, 3, 0);
        run.is(2, "clamp", 0, 4).is(2, "why", 1, 5, 3, 0).is(4, "clamp", 0, 2);
        run.is(1, "hit", 2, 0, 3, 0).is(1, "hit", 2, 1, 3, 0).is(1, "why", 2, 0, 3, 1);
        run.is(2, "clamp", 0, 0).is(4, "why", 1, 0, 3, 0).is(4, "why", 2, 0, 3, 0).is(4, "why", 2, 1, 3, 0);
        run.is(1, "hit", 2, 2, 3, 0).is(1, "hit", 2, 3, 3, 0).is(0, "clamp", 0, 4).is(3, "why", 1, 1, 3, 0);
        run.is(2, "hit", 0, 0, 0, 0).is(2, "hit", 1, 2, 0, 0).is(5, "why", 0, 0, 0, 0).is(5, "why", 0, 2, 0, 0);
        run.is(1, "why", 0, 4, 0, 1).is(2, "why", 1, 5, 1, 0).is(3, "why", 1, 3, 0, 0).is(6, "why", 1, 4, 0, 0);
    }

    private static void lowestTellsWhyWhenDull() {
        DUE.sentence("It is refused (the lowest of these tells why)");
        Run run = laid("sheet 4,4;tool 1,1,0,1;hole 0,3,4,1;clamp 2;").is(1, "hit", 0, 0, 3, 0);
        run.is(4, "why", 0, 2, 3, 0).is(6, "why", 0, 1, 3, 0).is(5, "why", 0, 0, 3, 0).is(3, "why", 0, 0, 2, 0)
                .is(2, "why", 0, 4, 3, 0).is(1, "why", 0, 1, 3, 1);
    }

    private static void refusedChangesNothing() {
        DUE.sentence("Of several the first in this order; nothing changes then.");
        Run run = laid("sheet 6,4;tool 2,1,0,1;tool 2,1,1,2;tool 1,1,0,9;hole 0,0,4,4;clamp 2;");
        run.is(2, "hit", 0, 0, 0, 0).is(2, "hit", 1, 0, 1, 1);
        int[][] refused = {{0, 0, 2, 1, 1}, {1, 5, 0, 0, 2}, {1, 3, 0, 0, 3}, {1, 2, 3, 0, 4}, {2, 0, 0, 0, 5},
            {0, 2, 0, 0, 6}};
        for (int[] r : refused) {
            run.is(r[4], "why", r[0], r[1], r[2], r[3]).refused(NO, "hit", r[0], r[1], r[2], r[3]);
        }
    }

    private static void allAreCut() {
        DUE.sentence("Else all are cut; it has been HIT once more; the STATION is HERE");
        Run run = laid("sheet 7,7;tool 6,6,0,9;tool 1,1,0,9;hole 0,0,7,7;");
        run.is(1, "hit", 1, 0, 0, 0).is(1, "station", 1, 4).is(0, "station", 0, 4).is(1, "count", 10);
        run.is(35, "hit", 0, 0, 0, 0).is(36, "count", 8).is(1, "station", 0, 4).is(1, "station", 1, 4)
                .is(0, "count", 10).is(2, "count", 5);
        run.is(11, "hit", 0, 1, 1, 0).is(47, "count", 8).is(2, "station", 0, 4);
        run.draws("oooooo#/" + "ooooooo/".repeat(5) + "#oooooo/");
    }

    private static void shorterWayRound() {
        DUE.sentence("the TURRET goes round to it the shorter way, as many TURNS as STATIONS are passed"
                + " from one to the next.");
        // for each number of stations those that are hit, one behind the other, and the turns to each
        String[] hit = {"000", "101", "120211", "31302", "41300", "503025144"};
        String[] turns = {"000", "111", "111110", "12212", "12220", "113323230"};
        for (int n = 1; n <= 6; n++) {
            Run run = laid("sheet 12,4;" + "tool 1,1,0,9;".repeat(n) + "hole 0,0,12,1;");
            int sum = 0;
            for (int i = 0; i < hit[n - 1].length(); i++) {
                int s = hit[n - 1].charAt(i) - '0';
                sum += turns[n - 1].charAt(i) - '0';
                run.is(1, "hit", s, i, 0, 0).is(sum, "count", 6).is(s, "count", 10);
            }
        }
    }

    // ---- nibbled

    private static void toolFitsTheHole() {
        DUE.sentence("if the TOOL so is not wider and not higher than the HOLE");
        Run run = laid("sheet 6,6;tool 3,2,0,9;tool 4,2,0,9;tool 3,3,0,9;tool 2,3,1,9;tool 1,4,1,9;hole 1,1,3,2;");
        run.is(1, "hits", 0, 0, 0).is(NONE, "hits", 0, 1, 0).is(NONE, "hits", 0, 2, 0).is(NONE, "hits", 0, 3, 0)
                .is(1, "hits", 0, 3, 1).is(NONE, "hits", 0, 4, 0).is(NONE, "hits", 0, 4, 1);
        run.refused(NO, "nibble", 0, 1, 0).refused(NO, "nibble", 0, 2, 0).refused(NO, "nibble", 0, 3, 0)
                .refused(NO, "nibble", 0, 4, 1).refused(NO, "nibble", 0, 0, 1);
        run.undone(1, "nibble", 0, 0, 0).is(1, "nibble", 0, 3, 1).is(1, "hole", 0, 5);
    }

    private static void sideBySide() {
        DUE.sentence("side by side from the HOLE's own corner");
        int[] sixOrLess = {6, 3, 2, 2, 2, 1};
        for (int size = 1; size <= 6; size++) {
            Run run = laid("sheet 8,8;tool " + size + ",1,0,9;tool 1," + size + ",0,9;hole 1,1,6,1;hole 1,2,1,6;");
            int due = sixOrLess[size - 1];
            run.is(due, "hits", 0, 0, 0).is(due, "hits", 1, 1, 0);
            run.is(due, "nibble", 0, 0, 0).is(due, "nibble", 1, 1, 0);
            run.is(due, "station", 0, 4).is(due, "station", 1, 4).is(12, "count", 8).is(2, "count", 9);
        }
        Run whole = laid("sheet 12,12;tool 1,1,0,99;tool 6,6,0,4;tool 5,5,0,9;tool 5,6,1,9;hole 0,0,12,12;");
        whole.is(144, "hits", 0, 0, 0).is(4, "hits", 0, 1, 0).is(9, "hits", 0, 2, 0).is(6, "hits", 0, 3, 0)
                .is(6, "hits", 0, 3, 1).undone(9, "nibble", 0, 2, 0).undone(6, "nibble", 0, 3, 1)
                .is(4, "nibble", 0, 1, 0).is(144, "count", 8);
    }

    /** A hole of five by a tool of two, along the row: hits at 0, 2 and, back, at 3. */
    private static Run rowOfFive(String cut) {
        Run run = laid("sheet 5,3;tool 2,1,0,9;tool 1,1,0,9;hole 0,1,5,1;");
        for (int i = 0; i < cut.length(); i++) {
            run.is(1, "hit", 1, cut.charAt(i) - '0', 1, 0);
        }
        return run;
    }

    private static Run columnOfFive(String cut) {
        Run run = laid("sheet 3,5;tool 1,2,0,9;tool 1,1,0,9;hole 1,0,1,5;");
        for (int i = 0; i < cut.length(); i++) {
            run.is(1, "hit", 1, 1, cut.charAt(i) - '0', 0);
        }
        return run;
    }

    /** Which cells are cut before, and how many hits are due then. */
    private static final String[] CUT_OF_FIVE = {"", "0", "1", "2", "3", "4", "01", "23", "34", "24", "0123", "0134",
        "1234", "234", "014", "012", "123"};
    private static final int[] HITS_OF_FIVE = {3, 3, 3, 3, 3, 2, 2, 2, 2, 2, 1, 1, 1, 1, 1, 2, 2};

    private static void lastOneOfARow() {
        DUE.sentence("the last one of a row (and the last row) as far back as is needed to be within it");
        for (int i = 0; i < CUT_OF_FIVE.length; i++) {
            rowOfFive(CUT_OF_FIVE[i]).is(HITS_OF_FIVE[i], "nibble", 0, 0, 0).is(HITS_OF_FIVE[i], "station", 0, 4)
                    .is(1, "hole", 0, 5);
        }
        rowOfFive("").is(3, "hits", 0, 0, 0);
    }

    private static void lastRow() {
        DUE.sentence("the last one of a row (and the last row) as far back as is needed to be within it");
        for (int i = 0; i < CUT_OF_FIVE.length; i++) {
            columnOfFive(CUT_OF_FIVE[i]).is(HITS_OF_FIVE[i], "nibble", 0, 0, 0).is(HITS_OF_FIVE[i], "station", 0, 4)
                    .is(1, "hole", 0, 5);
        }
        columnOfFive("").is(3, "hits", 0, 0, 0);
    }

    private static void lastOfBoth() {
        DUE.sentence("HITS in rows from above, in each from the left");
        String text = "sheet 5,5;tool 2,2,0,9;tool 1,1,0,9;hole 1,1,3,3;";
        laid(text).is(4, "nibble", 0, 0, 0).is(9, "count", 8);
        laid(text).is(1, "hit", 1, 3, 3, 0).is(3, "nibble", 0, 0, 0);
        laid(text).is(1, "hit", 1, 1, 1, 0).is(4, "nibble", 0, 0, 0);
        laid(text).is(1, "hit", 1, 3, 1, 0).is(4, "nibble", 0, 0, 0);
        laid(text).is(1, "hit", 1, 3, 1, 0).is(1, "hit", 1, 3, 2, 0).is(3, "nibble", 0, 0, 0);
        laid(text).is(1, "hit", 1, 1, 3, 0).is(1, "hit", 1, 2, 3, 0).is(3, "nibble", 0, 0, 0);
    }

    private static void leftOutWhenCut() {
        DUE.sentence("of these those all of whose CELLS are cut are left out as they come");
        Run run = laid("sheet 6,4;tool 2,2,0,9;tool 1,1,0,9;hole 0,0,6,2;");
        run.is(4, "hit", 0, 2, 0, 0).is(2, "nibble", 0, 0, 0).is(3, "station", 0, 4).is(NO, "nibble", 0, 0, 0);
        Run one = laid("sheet 6,4;tool 2,2,0,9;tool 1,1,0,9;hole 0,0,6,2;");
        one.is(1, "hit", 1, 2, 0, 0).is(1, "hit", 1, 3, 0, 0).is(1, "hit", 1, 2, 1, 0).is(3, "nibble", 0, 0, 0);
    }

    private static void leftOutAsTheyCome() {
        DUE.sentence("are left out as they come");
        rowOfFive("4").is(2, "nibble", 0, 0, 0).draws("...../ooooo/...../");
        columnOfFive("4").is(2, "nibble", 0, 0, 0).is(5, "count", 8);
        laid("sheet 5,3;tool 2,1,0,2;tool 1,1,0,9;hole 0,1,5,1;").refused(NO, "nibble", 0, 0, 0).is(1, "hit", 1, 4, 1, 0)
                .is(2, "nibble", 0, 0, 0).is(1, "station", 0, 5);
    }

    private static void leftOutUnderAClamp() {
        DUE.sentence("if one of those that come would be refused");
        Run run = laid("sheet 6,3;tool 2,1,0,9;hole 0,2,6,1;clamp 4;").is(2, "hit", 0, 0, 2, 0).is(2, "hit", 0, 2, 2, 0);
        run.refused(NO, "nibble", 0, 0, 0).is(4, "clamp", 0, 0).is(1, "nibble", 0, 0, 0).is(1, "hole", 0, 5);
        Run part = laid("sheet 6,3;tool 2,1,0,9;tool 1,1,0,9;hole 0,2,6,1;clamp 4;").is(1, "hit", 1, 0, 2, 0)
                .is(4, "clamp", 0, 0).refused(NO, "nibble", 0, 0, 0);
        part.is(0, "clamp", 0, 3).is(1, "hit", 1, 1, 2, 0).is(3, "clamp", 0, 0).is(2, "nibble", 0, 0, 0);
    }

    private static void refusedAsAWhole() {
        DUE.sentence("It is refused as a whole, if one of those that come would be refused");
        Run last = laid("sheet 6,4;tool 2,2,1,9;tool 1,2,1,9;hole 0,0,6,4;clamp 4;").is(4, "hit", 0, 0, 0, 0);
        last.refused(NO, "nibble", 0, 0, 0).refused(NO, "nibble", 0, 0, 1).refused(NO, "nibble", 0, 1, 0)
                .refused(NO, "nibble", 0, 1, 1);
        Run first = laid("sheet 6,3;tool 2,1,0,9;hole 0,2,6,1;clamp 0;").refused(NO, "nibble", 0, 0, 0);
        first.is(2, "hit", 0, 2, 2, 0).refused(NO, "nibble", 0, 0, 0);
        laid("sheet 6,4;tool 2,1,0,9;hole 0,0,6,3;clamp 2;").is(9, "nibble", 0, 0, 0);
    }

    private static void refusedWhenDullOnTheWay() {
        DUE.sentence("(by all as it is when it comes)");
        Run run = laid("sheet 6,4;tool 2,1,0,3;tool 1,1,0,9;hole 0,0,6,1;hole 0,1,6,1;");
        run.undone(3, "nibble", 0, 0, 0).is(2, "hit", 0, 0, 1, 0).refused(NO, "nibble", 0, 0, 0)
                .is(2, "nibble", 1, 0, 0).is(1, "station", 0, 5).refused(NO, "nibble", 0, 0, 0);
        run.is(3, "sharpen", 0).is(3, "nibble", 0, 0, 0).is(1, "station", 0, 5);
        Run one = laid("sheet 4,4;tool 1,1,0,1;hole 0,0,2,1;").refused(NO, "nibble", 0, 0, 0).is(1, "hit", 0, 0, 0, 0)
                .refused(NO, "nibble", 0, 0, 0);
        one.is(1, "sharpen", 0).is(1, "nibble", 0, 0, 0);
    }

    private static void nibblingTurnsOnce() {
        DUE.sentence("the STATION is HERE: the TURRET goes round to it the shorter way");
        Run run = laid("sheet 6,4;" + "tool 1,1,0,99;".repeat(6) + "hole 0,0,6,1;hole 0,1,6,1;hole 0,2,6,1;");
        run.is(6, "nibble", 0, 5, 0).is(1, "count", 6).is(5, "count", 10).is(6, "nibble", 1, 5, 0).is(1, "count", 6);
        run.refused(NO, "nibble", 0, 2, 0).is(6, "nibble", 2, 2, 0).is(4, "count", 6).is(2, "count", 10);
    }

    private static void done() {
        DUE.sentence("DONE is a HOLE all of whose CELLS are cut.");
        Run run = laid("sheet 4,4;tool 1,1,0,99;hole 0,0,2,2;hole 2,0,1,1;");
        int[] order = {3, 0, 2, 1};
        for (int i = 0; i < 4; i++) {
            run.is(4 - i, "hole", 0, 4).is(0, "hole", 0, 5).is(0, "count", 9)
                    .is(1, "hit", 0, order[i] % 2, order[i] / 2, 0);
        }
        run.is(0, "hole", 0, 4).is(1, "hole", 0, 5).is(1, "count", 9).refused(NO, "nibble", 0, 0, 0);
        run.is(3, "undo").is(0, "hole", 0, 5).is(0, "count", 9).is(1, "nibble", 0, 0, 0).is(1, "nibble", 1, 0, 0)
                .is(2, "count", 9);
    }
}
