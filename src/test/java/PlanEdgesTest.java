import java.util.Map;

/** The edges of part 3 of the document, sentence by sentence: THE PLAN, UNDONE, DRAWN. */
public final class PlanEdgesTest {
    private static final int BAD = -1, NO = -2, NONE = -4;
    private static final Due DUE = new Due();

    public static void main(String[] args) {
        holesThatAreNotDone();
        clampsAndLivesAreNotLookedAt();
        turnedByThoseThatTurn();
        hitsAsIfNothingWereCut();
        fewestTurns();
        fewestTurnsInSmallRings();
        fewestTurnsFromHere();
        fewestTogether();
        thenFewestTurns();
        thenTheFirst();
        thenByTheNext();
        noPlan();
        eachChangeIsUndone();
        lastSix();
        lastSixBehindUndone();
        refusedIsNoChange();
        noneBehindLaid();
        rowsOfTheDrawing();
        endOfTheDrawing();
        lettersOfTheDrawing();
        DUE.end();
    }

    private static Run laid(String text) {
        return Run.laid(DUE, text);
    }

    /** THE PLAN: its HITS, its TURNS, and for each HOLE its way. */
    private static Run plan(Run run, int hits, int turns, int... ways) {
        run.is(hits, "plan", -1).is(turns, "plan", -2);
        for (int k = 0; k < ways.length; k++) {
            run.is(ways[k], "plan", k);
        }
        return run.is(BAD, "plan", ways.length);
    }

    // ---- the plan

    private static void holesThatAreNotDone() {
        DUE.sentence("A PLAN tells for each HOLE that is not DONE a STATION and whether straight or turned");
        Run run = laid("sheet 6,4;tool 1,1,0,9;tool 2,2,0,9;hole 0,0,2,1;hole 3,0,2,2;");
        plan(run, 3, 1, 0, 2);
        plan(run.is(1, "hit", 0, 0, 0, 0), 3, 1, 0, 2);
        plan(run.is(1, "hit", 0, 1, 0, 0), 1, 1, NONE, 2);
        plan(run.is(4, "hit", 1, 3, 0, 0), 0, 0, NONE, NONE);
        plan(run.is(2, "undo"), 1, 1, NONE, 2);
        plan(laid("sheet 6,4;tool 1,1,0,9;tool 2,2,0,9;"), 0, 0);
        Run five = laid("sheet 12,4;tool 1,1,0,9;hole 0,0,1,1;hole 2,0,2,1;hole 5,0,1,1;hole 7,0,1,1;hole 9,0,1,1;");
        plan(five, 6, 0, 0, 0, 0, 0, 0);
    }

    private static void clampsAndLivesAreNotLookedAt() {
        DUE.sentence("by which it can be NIBBLED (CLAMPS, LIVES not looked at;");
        Run held = laid("sheet 4,4;tool 2,1,0,9;hole 0,3,4,1;clamp 0;clamp 2;");
        plan(held, 2, 0, 0).is(NO, "nibble", 0, 0, 0);
        Run dull = laid("sheet 4,4;tool 1,1,0,1;hole 0,0,4,4;");
        plan(dull, 16, 0, 0).is(NO, "nibble", 0, 0, 0);
        plan(dull.is(1, "hit", 0, 0, 0, 0).is(1, "station", 0, 5), 16, 0, 0);
    }

    private static void turnedByThoseThatTurn() {
        DUE.sentence("turned by TOOLS that TURN alone)");
        plan(laid("sheet 4,4;tool 3,1,0,9;hole 0,0,1,3;"), NONE, NONE, NONE);
        plan(laid("sheet 4,4;tool 3,1,1,9;hole 0,0,1,3;"), 1, 0, 1);
        plan(laid("sheet 6,6;tool 3,1,0,9;hole 0,0,4,3;"), 6, 0, 0);
        plan(laid("sheet 6,6;tool 3,1,1,9;hole 0,0,4,3;"), 4, 0, 1);
    }

    private static void hitsAsIfNothingWereCut() {
        DUE.sentence("all its HITS as if nothing of it were cut");
        Run run = laid("sheet 6,4;tool 2,2,0,9;hole 0,0,6,2;").is(4, "hit", 0, 0, 0, 0).is(4, "hit", 0, 2, 0, 0);
        plan(run.is(3, "hits", 0, 0, 0), 3, 0, 0).is(1, "nibble", 0, 0, 0);
    }

    /** Six shapes, none of which fits into another: each HOLE has one STATION alone. */
    private static final String[] SHAPES = {"1,6", "2,5", "3,4", "4,3", "5,2", "6,1"};
    private static final String[] PLACES = {"0,0", "1,0", "3,0", "6,0", "0,6", "5,6"};

    private static String ring(int stations, String used) {
        StringBuilder text = new StringBuilder("sheet 12,12;");
        for (int s = 0; s < stations; s++) {
            text.append("tool ").append(SHAPES[s]).append(",0,9;");
        }
        for (int i = 0; i < used.length(); i++) {
            int s = used.charAt(i) - '0';
            text.append("hole ").append(PLACES[s]).append(',').append(SHAPES[s]).append(';');
        }
        return text.toString();
    }

    /** All HOLES but the first so many, which are DONE, each by its own STATION: TURNS are those. */
    private static void turnsFor(int stations, String used, int done, int turns) {
        Run run = laid(ring(stations, used));
        for (int k = 0; k < done; k++) {
            run.is(1, "nibble", k, used.charAt(k) - '0', 0);
        }
        run.is(turns, "plan", -2).is(used.length() - done, "plan", -1);
        for (int k = 0; k < used.length(); k++) {
            run.is(k < done ? NONE : 2 * (used.charAt(k) - '0'), "plan", k);
        }
    }

    private static void fewestTurns() {
        DUE.sentence("TURNS: the fewest by which the TURRET, from HERE on, comes to each of these STATIONS in some order");
        String[] used = {"0", "1", "2", "3", "4", "5", "01", "05", "12", "45", "15", "51", "14", "25", "24", "34",
            "23", "125", "145", "135", "234", "1245", "02345", "12345", "54321", "01235", "13"};
        int[] turns = {0, 1, 2, 3, 2, 1, 1, 1, 2, 2, 3, 3, 4, 4, 4, 3, 3, 4, 4, 5, 4, 5, 4, 5, 5, 5, 3};
        for (int i = 0; i < used.length; i++) {
            turnsFor(6, used[i], 0, turns[i]);
        }
    }

    private static void fewestTurnsInSmallRings() {
        DUE.sentence("TURNS: the fewest by which the TURRET, from HERE on, comes to each of these STATIONS in some order");
        turnsFor(1, "0", 0, 0);
        turnsFor(2, "1", 0, 1);
        turnsFor(2, "01", 0, 1);
        turnsFor(3, "2", 0, 1);
        turnsFor(3, "12", 0, 2);
        turnsFor(4, "2", 0, 2);
        turnsFor(4, "3", 0, 1);
        turnsFor(4, "13", 0, 3);
        turnsFor(4, "12", 0, 2);
        turnsFor(4, "23", 0, 2);
        turnsFor(4, "123", 0, 3);
        turnsFor(5, "14", 0, 3);
        turnsFor(5, "23", 0, 3);
        turnsFor(5, "13", 0, 3);
        turnsFor(5, "24", 0, 3);
        turnsFor(5, "1234", 0, 4);
        turnsFor(5, "134", 0, 4);
    }

    private static void fewestTurnsFromHere() {
        DUE.sentence("from HERE on, comes to each of these STATIONS in some order");
        turnsFor(6, "50", 1, 1);
        turnsFor(6, "501", 1, 2);
        turnsFor(6, "504", 1, 3);
        turnsFor(6, "52", 1, 3);
        turnsFor(6, "53", 1, 2);
        turnsFor(6, "514", 1, 4);
        turnsFor(6, "305", 1, 3);
        turnsFor(6, "3102", 1, 3);
        turnsFor(6, "3", 1, 0);
        turnsFor(6, "35", 2, 0);
        turnsFor(2, "10", 1, 1);
        turnsFor(3, "201", 1, 2);
    }

    private static void fewestTogether() {
        DUE.sentence("THE PLAN is that of the fewest HITS and TURNS together");
        plan(laid("sheet 9,9;tool 1,1,0,9;tool 2,2,0,9;hole 0,0,2,2;"), 1, 1, 2);
        plan(laid("sheet 9,9;tool 1,1,0,9;tool 1,1,0,9;tool 3,1,0,9;tool 1,1,0,9;hole 0,0,4,1;"), 4, 0, 0);
        plan(laid("sheet 9,9;tool 1,1,0,9;tool 1,1,0,9;tool 5,1,0,9;tool 1,1,0,9;hole 0,0,5,1;"), 1, 2, 4);
        // a turn that is no gain for one hole is one for two
        plan(laid("sheet 9,9;tool 1,1,0,9;tool 2,1,0,9;hole 0,0,2,1;"), 2, 0, 0);
        plan(laid("sheet 9,9;tool 1,1,0,9;tool 2,1,0,9;hole 0,0,2,1;hole 0,2,2,1;"), 2, 1, 2, 2);
        // one turn for three holes
        plan(laid("sheet 9,9;tool 1,1,0,9;tool 2,1,0,9;tool 6,6,0,9;tool 6,6,0,9;tool 1,2,0,9;"
                + "hole 0,0,2,1;hole 0,2,2,2;hole 4,4,4,1;"), 5, 1, 2, 2, 2);
    }

    private static void thenFewestTurns() {
        DUE.sentence("of several that of the fewest TURNS");
        plan(laid("sheet 9,9;tool 1,2,0,9;tool 2,2,0,9;hole 0,0,2,2;"), 2, 0, 0);
        plan(laid("sheet 9,9;tool 6,6,0,9;tool 1,2,0,9;tool 2,2,0,9;tool 6,6,0,9;hole 0,0,2,2;"), 2, 1, 2);
        plan(laid("sheet 9,9;tool 6,6,0,9;tool 6,6,0,9;tool 3,1,0,9;tool 2,1,0,9;hole 0,0,3,1;"), 2, 1, 6);
    }

    private static void thenTheFirst() {
        DUE.sentence("of several the first (by the first HOLE that is not DONE: STATION 0 straight, turned, 1 straight, ..;");
        plan(laid("sheet 9,9;tool 2,2,1,9;hole 0,0,4,4;"), 4, 0, 0);
        plan(laid("sheet 9,9;tool 2,1,1,9;hole 0,0,2,2;"), 2, 0, 0);
        Run turned = laid("sheet 9,9;tool 4,1,1,9;tool 1,4,0,9;tool 1,1,0,9;hole 0,0,1,4;hole 4,4,1,1;");
        plan(turned.is(1, "hit", 2, 4, 4, 0), 1, 1, 1, NONE);
        Run straight = laid("sheet 9,9;tool 6,6,1,9;tool 4,1,1,9;tool 1,1,0,9;tool 1,4,0,9;hole 0,0,1,4;hole 4,4,1,1;");
        plan(straight.is(1, "hit", 2, 4, 4, 0), 1, 1, 3, NONE);
        plan(laid("sheet 9,9;tool 6,6,0,9;tool 2,2,0,9;tool 6,6,0,9;tool 2,2,0,9;hole 0,0,2,2;"), 1, 1, 2);
        plan(laid("sheet 9,9;" + "tool 6,6,0,9;".repeat(5) + "tool 2,2,1,9;hole 0,0,2,2;"), 1, 1, 10);
        plan(laid("sheet 9,9;" + "tool 6,6,0,9;".repeat(5) + "tool 2,1,1,9;hole 0,0,1,2;"), 1, 1, 11);
    }

    private static void thenByTheNext() {
        DUE.sentence("then by the next)");
        String tools = "sheet 9,9;tool 1,5,0,9;tool 5,1,0,9;tool 6,6,0,9;tool 5,1,0,9;";
        plan(laid(tools + "hole 0,0,1,5;hole 2,0,5,1;"), 2, 1, 0, 2);
        plan(laid(tools + "hole 2,0,5,1;hole 0,0,1,5;"), 2, 1, 2, 0);
        plan(laid(tools + "hole 0,0,1,5;hole 2,0,5,1;").is(1, "nibble", 0, 0, 0), 1, 1, NONE, 2);
        // both stations are come to for a hole each, and the third can be by either
        String either = "sheet 9,9;tool 1,4,0,9;tool 4,1,0,9;";
        plan(laid(either + "hole 0,0,1,4;hole 2,0,4,1;hole 2,2,4,4;"), 6, 1, 0, 2, 0);
        plan(laid(either + "hole 2,2,4,4;hole 2,0,4,1;hole 0,0,1,4;"), 6, 1, 0, 2, 0);
        // by station 0 and 4 or by 1 and 2, as many hits and turns: the first hole decides
        String both = "sheet 9,9;tool 1,2,0,9;tool 1,4,0,9;tool 2,1,0,9;tool 6,6,0,9;tool 4,1,0,9;tool 6,6,0,9;";
        plan(laid(both + "hole 0,0,1,4;hole 2,0,4,1;"), 3, 2, 0, 8);
        plan(laid(both + "hole 2,0,4,1;hole 0,0,1,4;"), 3, 2, 4, 2);
        plan(laid(both + "hole 0,6,1,2;hole 2,0,4,1;hole 0,0,1,4;").is(1, "nibble", 0, 0, 0), 3, 2, NONE, 4, 2);
    }

    private static void noPlan() {
        DUE.sentence("NONE: there is none (a HOLE that is not DONE can not be NIBBLED), HOLE k is DONE.");
        Run run = laid("sheet 9,9;tool 2,2,0,9;tool 3,1,0,9;hole 0,0,2,2;hole 4,0,1,3;hole 6,0,3,1;");
        plan(run, NONE, NONE, NONE, NONE, NONE).is(BAD, "plan", -3).is(BAD, "plan", 3);
        plan(run.is(1, "nibble", 0, 0, 0), NONE, NONE, NONE, NONE, NONE);
        plan(laid("sheet 9,9;tool 2,2,1,9;hole 0,0,1,1;"), NONE, NONE, NONE);
        plan(laid("sheet 9,9;tool 2,2,1,9;hole 0,0,2,2;"), 1, 0, 0);
        plan(laid("sheet 9,9;tool 2,2,1,9;hole 0,0,2,2;").is(1, "nibble", 0, 0, 0), 0, 0, NONE);
    }

    // ---- undone

    private static void eachChangeIsUndone() {
        DUE.sentence("A change: a HIT, a HOLE NIBBLED, a CLAMP moved (to where it does not hold a CELL of the other one),"
                + " a TOOL made sharp (never HIT). UNDONE is the latest change");
        Run run = new Run(DUE).undone(4, "hit", 0, 1, 1, 0).is(4, "hit", 0, 1, 1, 0);
        run.undone(3, "hit", 1, 6, 1, 1).undone(3, "nibble", 1, 1, 1).is(3, "nibble", 1, 1, 1);
        run.undone(0, "clamp", 0, 5).undone(7, "clamp", 1, 8).is(0, "clamp", 0, 5);
        run.undone(1, "sharpen", 0).undone(3, "sharpen", 1).is(3, "sharpen", 1);
        run.undone(4, "nibble", 0, 2, 0).is(4, "count", 11);
    }

    private static void lastSix() {
        DUE.sentence("the last 6 can be");
        for (int changes = 0; changes <= 14; changes++) {
            Run run = laid("sheet 12,4;tool 1,1,0,99;tool 1,1,0,99;hole 0,0,12,2;");
            for (int i = 0; i < changes; i++) {
                run.is(1, "hit", i % 2, i % 12, i / 12, 0).is(Math.min(i + 1, 6), "count", 11);
            }
            int left = changes;
            for (int can = Math.min(changes, 6); can > 0; can--) {
                left--;
                run.is(can - 1, "undo").is(can - 1, "count", 11).is(left, "count", 5).is(left, "count", 8);
                run.is(Math.max(left - 1, 0), "count", 6).is(left == 0 ? 0 : (left - 1) % 2, "count", 10);
                run.is(left / 2, "station", 1, 4).is(left - left / 2, "station", 0, 4);
            }
            run.refused(NO, "undo");
        }
    }

    private static void lastSixBehindUndone() {
        DUE.sentence("UNDONE is the latest change (the last 6 can be");
        Run run = laid("sheet 12,4;tool 1,1,0,99;hole 0,0,12,1;");
        for (int x = 0; x < 6; x++) {
            run.is(1, "hit", 0, x, 0, 0);
        }
        run.is(5, "undo").is(4, "undo").is(3, "undo");
        for (int x = 7; x < 12; x++) {
            run.is(1, "hit", 0, x, 0, 0).is(Math.min(x - 3, 6), "count", 11);
        }
        run.draws("ooo####ooooo/............/............/............/");
        for (int can = 5; can >= 0; can--) {
            run.is(can, "undo");
        }
        run.refused(NO, "undo").is(2, "count", 8).is(1, "cell", 1, 0, 0).is(0, "cell", 2, 0, 0);
        run.is(1, "hit", 0, 11, 0, 0).is(1, "count", 11).is(0, "undo").is(NO, "undo");
    }

    private static void refusedIsNoChange() {
        DUE.sentence("the last 6 can be, such by which nothing becomes another, too");
        Run run = new Run(DUE).is(4, "hit", 0, 1, 1, 0).is(1, "count", 11);
        run.is(NO, "hit", 0, 1, 1, 0).is(NO, "nibble", 2, 0, 0).is(NO, "clamp", 0, 0).is(NO, "clamp", 0, 7)
                .is(NO, "sharpen", 1).is(NO, "lay").is(BAD, "hit", 3, 0, 0, 0).is(BAD, "clamp", 0, 9);
        run.is(0, "why", 0, 3, 1, 0).is(7, "plan", -1).is(1, "write", 'x').is(0, "fault").is(1, "wipe");
        run.is(1, "count", 11).is(0, "undo").is(NO, "undo").is(0, "count", 8);
    }

    private static void noneBehindLaid() {
        DUE.sentence("behind LAID none can be");
        String text = "sheet 4,4;tool 1,1,0,9;hole 0,0,4,1;";
        Run run = new Run(DUE).is(4, "hit", 0, 1, 1, 0).is(0, "clamp", 0, 1).write(text).is(2, "count", 11);
        run.is(1, "lay").is(0, "count", 11).refused(NO, "undo");
        run.is(1, "hit", 0, 0, 0, 0).is(1, "count", 11).is(1, "lay").refused(NO, "undo").is(0, "count", 8);
        run.is(1, "hit", 0, 3, 0, 0).write("x").refused(NO, "lay").is(1, "count", 11).is(0, "undo");
        Map<String, Integer> anew = laid(text).answers();
        run.is(text.length() + 1, "wipe").write(text).asks(anew, "as laid");
    }

    // ---- drawn

    private static void rowsOfTheDrawing() {
        DUE.sentence("DRAWN: row by row from above, a / behind each");
        laid("sheet 3,4;tool 1,1,0,9;hole 2,0,1,1;hole 0,1,2,1;").draws("..#/##./.../.../");
        laid("sheet 4,3;tool 1,1,0,9;hole 3,0,1,2;clamp 0;").draws("...#/...#/cc../");
    }

    private static void endOfTheDrawing() {
        DUE.sentence("The k-th letter (k 0 or more) of what is DRAWN. BAD (k below 0); NONE: not so many.");
        int[][] sides = {{3, 3}, {3, 12}, {12, 3}, {12, 12}, {10, 8}};
        for (int[] side : sides) {
            int letters = (side[0] + 1) * side[1];
            Run run = laid("sheet " + side[0] + "," + side[1] + ";tool 1,1,0,9;");
            run.is(BAD, "drawn", -1).is(BAD, "drawn", Integer.MIN_VALUE).is('.', "drawn", 0);
            run.is('.', "drawn", side[0] - 1).is('/', "drawn", side[0]).is('.', "drawn", side[0] + 1);
            run.is('.', "drawn", letters - 2).is('/', "drawn", letters - 1).is(NONE, "drawn", letters)
                    .is(NONE, "drawn", letters + 1).is(NONE, "drawn", Integer.MAX_VALUE);
            for (int k = 0; k < letters; k++) {
                run.is(k % (side[0] + 1) == side[0] ? '/' : '.', "drawn", k);
            }
        }
    }

    private static void lettersOfTheDrawing() {
        DUE.sentence("c a CELL held by a CLAMP, o one that is cut, # another one of a HOLE, . any other.");
        Run run = laid("sheet 6,3;tool 1,1,0,9;hole 1,1,4,2;clamp 0;").draws("....../.####./cc###./");
        run.is(1, "hit", 0, 2, 2, 0).is(1, "hit", 0, 4, 1, 0).draws("....../.###o./cco##./");
        run.is(0, "clamp", 0, 2).draws("....../.###o./.#cc#./");
        run.is(2, "clamp", 0, 4).draws("....../.###o./.#o#cc/");
        run.is(3, "undo").is(2, "undo").is(1, "undo").draws("....../.####./cco##./");
    }
}
