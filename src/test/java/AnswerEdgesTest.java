/** The promises 1 to 19: for every answer that a heading names, the inputs just within and just outside. */
public final class AnswerEdgesTest {
    private static final int BAD = -1, NO = -2, FULL = -3, NONE = -4;
    private static final int LOW = Integer.MIN_VALUE, HIGH = Integer.MAX_VALUE;
    private static final Due DUE = new Due();

    /** Of every kind the fewest, the first text, and of every kind the most. */
    private static final String[] TEXTS = {"sheet 3,3;tool 1,1,0,1;",
        "sheet 10,8;tool 2,2,0,40;tool 3,1,1,12;tool 1,1,0,99;hole 1,1,4,2;hole 6,1,3,3;hole 2,5,1,3;hole 6,6,3,1;"
            + "clamp 0;clamp 7;",
        "sheet 12,12;tool 1,1,0,9;tool 1,1,1,9;tool 1,1,0,9;tool 1,1,0,9;tool 1,1,0,9;tool 1,1,1,9;"
            + "hole 0,0,1,1;hole 2,0,1,1;hole 4,0,1,1;hole 6,0,1,1;hole 8,0,1,1;clamp 0;clamp 8;"};

    public static void main(String[] args) {
        numbersThatAreTold();
        badComesFirst();
        newObject();
        write();
        wipe();
        fault();
        lay();
        hit();
        why();
        nibble();
        clamp();
        sharpen();
        undo();
        station();
        hole();
        hits();
        cell();
        column();
        plan();
        count();
        askingChangesNothing();
        DUE.end();
    }

    private static Run laid(String text) {
        return Run.laid(DUE, text);
    }

    // ---- bad

    private static void numbersThatAreTold() {
        DUE.sentence("BAD: a number is none that is told (STATIONS, HOLES, CLAMPS, CELLS such as there are).");
        for (String text : TEXTS) {
            Run run = laid(text);
            int w = run.wouldAnswer("count", 0) - 1;
            int h = run.wouldAnswer("count", 1) - 1;
            int s = run.wouldAnswer("count", 2) - 1;
            int k = run.wouldAnswer("count", 3) - 1;
            int c = run.wouldAnswer("count", 4) - 1;
            told(run, "write", 32, 126);
            told(run, "hit", 0, s, 0, 99, 0, 99, 0, 1);
            told(run, "why", 0, s, 0, 99, 0, 99, 0, 1);
            told(run, "nibble", 0, k, 0, s, 0, 1);
            told(run, "clamp", 0, c, 0, w - 1);
            told(run, "sharpen", 0, s);
            told(run, "station", 0, s, 0, 6);
            told(run, "hole", 0, k, 0, 5);
            told(run, "hits", 0, k, 0, s, 0, 1);
            told(run, "cell", 0, w, 0, h, 0, 2);
            told(run, "column", 0, c);
            told(run, "plan", -2, k);
            told(run, "drawn", 0, HIGH);
            told(run, "count", 0, 12);
        }
    }

    /** For each number the lowest and the highest that is told; those just beyond are BAD and change nothing. */
    private static void told(Run run, String name, int... ranges) {
        int[] args = new int[ranges.length / 2];
        boolean any = true;
        for (int i = 0; i < args.length; i++) {
            args[i] = ranges[2 * i];
            any &= ranges[2 * i] <= ranges[2 * i + 1];
        }
        for (int i = 0; i < args.length; i++) {
            int low = ranges[2 * i];
            int high = ranges[2 * i + 1];
            int[] numbers = {low, high, low - 1, high == HIGH ? LOW : high + 1, LOW, HIGH};
            for (int n : numbers) {
                args[i] = n;
                if (any && n >= low && n <= high) {
                    DUE.holds(new Call(name, args) + " is not bad", run.wouldAnswer(name, args) != BAD);
                } else {
                    run.refused(BAD, name, args);
                }
            }
            args[i] = low;
        }
    }

    private static void badComesFirst() {
        DUE.sentence("Of several the first in this order; nothing changes then.");
        Run run = laid("sheet 4,4;tool 2,1,0,1;hole 0,0,2,1;hole 3,0,1,1;clamp 0;").is(2, "hit", 0, 0, 0, 0);
        run.is(NO, "hit", 0, 0, 0, 0).refused(BAD, "hit", 0, 0, 0, 2).refused(BAD, "hit", 0, 100, 0, 1)
                .refused(BAD, "hit", 1, 0, 0, 0);
        run.is(5, "why", 0, 0, 0, 0).refused(BAD, "why", 0, 0, 0, -1).refused(BAD, "why", 0, 0, 100, 1);
        run.is(NO, "nibble", 0, 0, 0).refused(BAD, "nibble", 0, 0, 2).refused(BAD, "nibble", 0, 1, 0);
        run.is(NO, "clamp", 0, 0).refused(BAD, "clamp", 1, 0).refused(BAD, "clamp", 0, 3);
        run.is(NONE, "hits", 1, 0, 0).refused(BAD, "hits", 1, 0, 2).refused(BAD, "hits", 1, 1, 0);
        run.is(NONE, "plan", 1).refused(BAD, "plan", 2).refused(BAD, "plan", -3);
        run.is(NONE, "cell", 0, 1, 1).refused(BAD, "cell", 0, 1, 3).refused(BAD, "cell", 4, 1, 1);
        Run full = new Run(DUE).write("x".repeat(200)).is(FULL, "write", 'x');
        full.refused(BAD, "write", 31).refused(BAD, "write", 127);
    }

    // ---- told

    private static void newObject() {
        DUE.sentence("As told; THE TEXT is empty.");
        new Run(DUE).is(0, "count", 12).is(NONE, "fault").is(0, "wipe").is(NO, "lay").is(NO, "undo");
        Run first = laid(TEXTS[1]).is(TEXTS[1].length(), "wipe");
        new Run(DUE).asks(first.answers(), "of a new object");
    }

    private static void write() {
        DUE.sentence("A letter (32 to 126, as in ASCII) comes behind THE TEXT: how long it is.");
        Run all = new Run(DUE);
        for (int letter = 32; letter <= 126; letter++) {
            all.is(letter - 31, "write", letter);
        }
        all.refused(BAD, "write", 31).refused(BAD, "write", 127).refused(BAD, "write", 256 + 's').is(95, "count", 12);
        DUE.sentence("BAD; FULL: it has 200.");
        Run full = new Run(DUE);
        for (int length = 1; length <= 200; length++) {
            full.is(length, "write", 'x');
        }
        full.refused(FULL, "write", 'x').refused(FULL, "write", 32).refused(FULL, "write", 126).is(200, "count", 12);
    }

    private static void wipe() {
        DUE.sentence("THE TEXT is empty: how long it was.");
        Run run = new Run(DUE).refused(0, "wipe").write("x").is(1, "wipe").is(0, "count", 12).is(0, "wipe");
        run.write("sheet 4,4;").is(10, "wipe").is(NONE, "fault").write("x".repeat(200)).is(200, "wipe")
                .is(1, "write", 'x').is(1, "wipe");
        run.asks(new Run(DUE).answers(), "as of a new object");
    }

    private static void fault() {
        DUE.sentence("`int fault()`: FAULT. NONE.");
        new Run(DUE).refused(NONE, "fault").write("sheet 4,4").refused(0, "fault").write(";").refused(NONE, "fault")
                .write(";").refused(10, "fault").write("sheet 4,4;").refused(10, "fault");
        new Run(DUE).write("sheet 4,4;" + "tool 1,1,0,1;".repeat(6) + "clamp 0;" + "z").refused(96, "fault");
    }

    private static void lay() {
        DUE.sentence("LAID: how many STATIONS. NO.");
        for (int n = 1; n <= 6; n++) {
            new Run(DUE).write("sheet 4,4;" + "tool 1,1,0,1;".repeat(n)).is(n, "lay").is(n, "lay");
        }
        Run used = new Run(DUE).is(4, "hit", 0, 1, 1, 0).is(3, "nibble", 1, 1, 0).is(0, "clamp", 0, 2);
        used.refused(NO, "lay").write("sheet 4,4;").refused(NO, "lay").write("tool 7,1,0,1;").refused(NO, "lay");
        used.is(23, "wipe").write("tool 1,1,0,1;").refused(NO, "lay");
    }

    // ---- what is done

    private static void hit() {
        DUE.sentence("A HIT of a STATION at (x, y) (0 to 99 each), turned (1) or straight (0):"
                + " how many CELLS are cut that were not. BAD; NO: it is refused.");
        Run run = new Run(DUE).is(NO, "hit", 0, 99, 99, 0).is(BAD, "hit", 0, 100, 99, 0).is(BAD, "hit", 0, 99, 100, 0)
                .is(NO, "hit", 0, 0, 0, 0).is(BAD, "hit", 0, -1, 0, 0).is(BAD, "hit", 0, 0, -1, 0);
        run.is(1, "hit", 2, 6, 1, 0).is(2, "hit", 1, 6, 1, 0).is(2, "hit", 1, 6, 1, 1).is(4, "hit", 0, 7, 2, 0);
        run.refused(NO, "hit", 0, 7, 2, 0).is(9, "count", 8);
    }

    private static void why() {
        DUE.sentence("Why a HIT would be refused: 0 it would not. BAD.");
        Run run = new Run(DUE).refused(0, "why", 0, 1, 1, 0).refused(1, "why", 0, 1, 1, 1).refused(2, "why", 0, 9, 1, 0)
                .refused(3, "why", 0, 0, 1, 0).is(0, "clamp", 0, 2).refused(4, "why", 2, 2, 7, 0);
        run.is(4, "hit", 0, 1, 1, 0).refused(5, "why", 0, 1, 1, 0).is(2, "why", 0, 99, 99, 0)
                .is(BAD, "why", 0, 100, 99, 0).is(BAD, "why", 0, 99, 100, 0);
        laid("sheet 4,4;tool 1,1,0,1;hole 0,0,2,1;").is(1, "hit", 0, 0, 0, 0).refused(6, "why", 0, 1, 0, 0);
    }

    private static void nibble() {
        DUE.sentence("A HOLE is NIBBLED by a STATION: how many HITS. BAD; NO: it is DONE, it can not be, is refused.");
        Run run = new Run(DUE).refused(NO, "nibble", 2, 0, 0).refused(NO, "nibble", 0, 1, 1).refused(NO, "nibble", 0, 0, 1);
        run.is(2, "nibble", 0, 0, 0).refused(NO, "nibble", 0, 0, 0).refused(NO, "nibble", 0, 2, 0);
        run.is(0, "clamp", 0, 1).refused(NO, "nibble", 2, 1, 1).refused(NO, "nibble", 2, 2, 0);
        run.is(1, "clamp", 0, 3).is(1, "nibble", 2, 1, 1).is(3, "nibble", 3, 2, 0).is(9, "nibble", 1, 2, 0);
        laid("sheet 4,4;tool 1,1,0,3;hole 0,0,4,1;").refused(NO, "nibble", 0, 0, 0);
        laid("sheet 4,4;tool 1,1,0,4;hole 0,0,4,1;").is(4, "nibble", 0, 0, 0);
    }

    private static void clamp() {
        DUE.sentence("A CLAMP is moved to a column: where it was. BAD; NO: it is there, it would hold a CELL of the"
                + " other one.");
        Run run = laid("sheet 10,4;tool 1,1,0,1;hole 0,3,10,1;clamp 3;clamp 6;");
        run.refused(NO, "clamp", 0, 3).refused(NO, "clamp", 1, 6);
        run.refused(NO, "clamp", 0, 5).refused(NO, "clamp", 0, 6).refused(NO, "clamp", 0, 7);
        run.refused(NO, "clamp", 1, 2).refused(NO, "clamp", 1, 3).refused(NO, "clamp", 1, 4);
        run.undone(3, "clamp", 0, 4).undone(3, "clamp", 0, 8).undone(3, "clamp", 0, 0).undone(3, "clamp", 0, 2)
                .undone(6, "clamp", 1, 1).undone(6, "clamp", 1, 5).undone(6, "clamp", 1, 7).undone(6, "clamp", 1, 8);
        run.refused(BAD, "clamp", 0, 9).refused(BAD, "clamp", 0, -1).refused(BAD, "clamp", 2, 0);
        run.is(3, "clamp", 0, 8).is(6, "clamp", 1, 3).is(8, "clamp", 0, 5).is(5, "column", 0).is(3, "column", 1)
                .is(3, "count", 7);
        Run one = laid("sheet 3,3;tool 1,1,0,1;clamp 0;").refused(NO, "clamp", 0, 0).is(0, "clamp", 0, 1);
        one.refused(BAD, "clamp", 0, 2).refused(BAD, "clamp", 1, 0).is(1, "clamp", 0, 0);
        laid("sheet 4,3;tool 1,1,0,1;clamp 0;clamp 2;").refused(NO, "clamp", 0, 1).refused(NO, "clamp", 1, 1)
                .refused(NO, "clamp", 0, 2).refused(BAD, "clamp", 1, 3);
    }

    private static void sharpen() {
        DUE.sentence("A TOOL is made sharp: how often it had been HIT. BAD; NO: never.");
        Run run = new Run(DUE).refused(NO, "sharpen", 0).is(4, "hit", 0, 1, 1, 0).refused(NO, "sharpen", 1);
        run.undone(1, "sharpen", 0).is(1, "sharpen", 0).refused(NO, "sharpen", 0).is(1, "nibble", 0, 0, 0);
        run.is(2, "count", 5).is(1, "sharpen", 0);
    }

    private static void undo() {
        DUE.sentence("UNDONE: how many more can be. NO.");
        Run run = new Run(DUE).refused(NO, "undo").is(4, "hit", 0, 1, 1, 0).is(0, "undo").refused(NO, "undo");
        for (int i = 0; i < 7; i++) {
            run.is(i % 2, "clamp", 0, 1 - i % 2);
        }
        for (int more = 5; more >= 0; more--) {
            run.is(more, "undo");
        }
        run.refused(NO, "undo").is(1, "column", 0);
    }

    // ---- looked at

    private static void station() {
        DUE.sentence("Of a STATION: wide (what = 0), high (1), 1 if it TURNS, else 0 (2), LIFE (3),"
                + " HITS since it was sharp (4), 1 if DULL, else 0 (5), TURNS to it from HERE (6). BAD.");
        Run run = laid("sheet 12,4;tool 1,6,0,2;tool 6,1,1,99;tool 1,1,1,1;hole 0,0,12,4;");
        int[][] told = {{1, 6, 0, 2, 0, 0, 0}, {6, 1, 1, 99, 0, 0, 1}, {1, 1, 1, 1, 0, 0, 1}};
        for (int s = 0; s < 3; s++) {
            for (int what = 0; what < 7; what++) {
                run.refused(told[s][what], "station", s, what);
            }
            run.is(BAD, "station", s, -1).is(BAD, "station", s, 7);
        }
        run.is(1, "hit", 2, 0, 0, 0).is(1, "station", 2, 4).is(1, "station", 2, 5).is(0, "station", 2, 6)
                .is(1, "station", 0, 6).is(1, "station", 1, 6);
        run.is(1, "sharpen", 2).is(0, "station", 2, 4).is(0, "station", 2, 5).is(1, "undo").is(1, "station", 2, 5);
    }

    private static void hole() {
        DUE.sentence("Of a HOLE: x (what = 0), y (1), wide (2), high (3), CELLS that are not cut (4),"
                + " 1 if it is DONE, else 0 (5). BAD.");
        Run run = laid("sheet 12,12;tool 1,1,0,9;hole 11,0,1,12;hole 0,11,11,1;hole 0,0,2,1;");
        int[][] told = {{11, 0, 1, 12, 12, 0}, {0, 11, 11, 1, 11, 0}, {0, 0, 2, 1, 2, 0}};
        for (int k = 0; k < 3; k++) {
            for (int what = 0; what < 6; what++) {
                run.refused(told[k][what], "hole", k, what);
            }
            run.is(BAD, "hole", k, -1).is(BAD, "hole", k, 6);
        }
        run.is(1, "hit", 0, 1, 0, 0).is(1, "hole", 2, 4).is(0, "hole", 2, 5).is(1, "hit", 0, 0, 0, 0)
                .is(0, "hole", 2, 4).is(1, "hole", 2, 5).is(12, "hole", 0, 4).is(0, "hole", 0, 5);
        laid("sheet 12,12;tool 1,1,0,9;hole 0,0,12,12;").is(144, "hole", 0, 4);
    }

    private static void hits() {
        DUE.sentence("HITS by which a HOLE, nothing of it being cut, is NIBBLED by a STATION, turned (1) or straight (0)."
                + " BAD; NONE: it can not be.");
        Run run = laid("sheet 9,9;tool 3,2,1,1;tool 4,3,0,9;hole 0,0,4,3;hole 5,0,2,3;hole 8,8,1,1;clamp 7;");
        run.refused(4, "hits", 0, 0, 0).refused(2, "hits", 0, 0, 1).refused(1, "hits", 0, 1, 0)
                .refused(NONE, "hits", 0, 1, 1);
        run.is(NONE, "hits", 1, 0, 0).is(1, "hits", 1, 0, 1).is(NONE, "hits", 1, 1, 0).is(NONE, "hits", 2, 0, 0);
        run.is(1, "nibble", 0, 1, 0).is(4, "hits", 0, 0, 0).is(1, "hits", 0, 1, 0);
    }

    private static void cell() {
        DUE.sentence("Of a CELL: 1 if it is cut, else 0 (what = 0), its HOLE (1; NONE), the CLAMP that holds it (2; NONE)."
                + " BAD.");
        Run run = new Run(DUE).refused(0, "cell", 1, 1, 0).refused(0, "cell", 1, 1, 1).refused(NONE, "cell", 1, 1, 2);
        run.is(NONE, "cell", 0, 1, 1).is(0, "cell", 4, 2, 1).is(NONE, "cell", 5, 2, 1).is(1, "cell", 6, 3, 1)
                .is(3, "cell", 8, 6, 1).is(NONE, "cell", 9, 6, 1);
        run.is(0, "cell", 0, 7, 2).is(0, "cell", 1, 7, 2).is(NONE, "cell", 2, 7, 2).is(NONE, "cell", 6, 7, 2)
                .is(1, "cell", 7, 7, 2).is(1, "cell", 8, 7, 2).is(NONE, "cell", 9, 7, 2).is(NONE, "cell", 7, 6, 2);
        run.is(1, "hit", 2, 2, 7, 0).is(1, "cell", 2, 7, 0).is(0, "clamp", 0, 2).is(1, "cell", 2, 7, 0)
                .is(2, "cell", 2, 7, 1).is(0, "cell", 2, 7, 2).is(NONE, "cell", 0, 7, 2);
    }

    private static void column() {
        DUE.sentence("Where a CLAMP is. BAD.");
        Run run = new Run(DUE).refused(0, "column", 0).refused(7, "column", 1).refused(BAD, "column", 2)
                .refused(BAD, "column", -1);
        run.is(7, "clamp", 1, 8).is(8, "column", 1).is(0, "column", 0).is(0, "undo").is(7, "column", 1);
        laid(TEXTS[0]).is(BAD, "column", 0);
    }

    // ---- the plan

    private static void plan() {
        DUE.sentence("THE PLAN: HITS (k = -1), TURNS (-2); for HOLE k 2 times the STATION and 1 if turned, together.");
        Run run = new Run(DUE).refused(7, "plan", -1).refused(1, "plan", -2).refused(0, "plan", 0).refused(2, "plan", 1)
                .refused(3, "plan", 2).refused(2, "plan", 3).refused(BAD, "plan", 4).refused(BAD, "plan", -3);
        run.is(2, "nibble", 0, 0, 0).is(NONE, "plan", 0).is(5, "plan", -1);
        laid(TEXTS[0]).is(0, "plan", -1).is(0, "plan", -2).is(BAD, "plan", 0);
    }

    private static void count() {
        DUE.sentence("How many: 0 W, 1 H, 2 STATIONS, 3 HOLES, 4 CLAMPS, 5 HITS so far (that of what is UNDONE is none),"
                + " 6 TURNS so far, 7 CLAMPS moved so far, 8 CELLS that are cut, 9 HOLES that are DONE, 10 HERE,"
                + " 11 changes that can be UNDONE, 12 letters of THE TEXT. BAD.");
        Run run = new Run(DUE);
        counts(run, 10, 8, 3, 4, 2, 0, 0, 0, 0, 0, 0, 0, 0);
        run.is(3, "nibble", 2, 2, 0).is(0, "clamp", 0, 2).write("ab");
        counts(run, 10, 8, 3, 4, 2, 3, 1, 1, 3, 1, 2, 2, 2);
        run.is(3, "hit", 1, 6, 1, 1).is(3, "sharpen", 2).is(2, "clamp", 0, 3);
        counts(run, 10, 8, 3, 4, 2, 4, 2, 2, 6, 1, 1, 5, 2);
        run.is(4, "undo").is(3, "undo").is(2, "undo");
        counts(run, 10, 8, 3, 4, 2, 3, 1, 1, 3, 1, 2, 2, 2);
        run.is(1, "undo").is(0, "undo");
        counts(run, 10, 8, 3, 4, 2, 0, 0, 0, 0, 0, 0, 0, 2);
    }

    private static void counts(Run run, int... want) {
        for (int what = 0; what < want.length; what++) {
            run.is(want[what], "count", what);
        }
        run.is(BAD, "count", -1).is(BAD, "count", want.length);
    }

    private static void askingChangesNothing() {
        DUE.sentence("All that is asked is told of all as it stands then");
        Run silent = new Run(DUE).is(4, "hit", 0, 1, 1, 0).is(0, "clamp", 0, 2).is(3, "nibble", 1, 1, 1);
        Run asked = new Run(DUE).is(0, "why", 2, 2, 7, 0).is(4, "hits", 1, 0, 0).is(7, "plan", -1).is('#', "drawn", 79)
                .is(0, "cell", 1, 1, 0).is(NONE, "fault").is(4, "hit", 0, 1, 1, 0);
        asked.is(0, "why", 2, 2, 7, 0).is(4, "hits", 1, 0, 0).is(7, "plan", -1).is('#', "drawn", 79)
                .is(1, "cell", 1, 1, 0).is(NONE, "fault").is(0, "clamp", 0, 2);
        asked.is(4, "why", 2, 2, 7, 0).is(4, "hits", 1, 0, 0).is(7, "plan", -1).is('c', "drawn", 79)
                .is(1, "cell", 1, 1, 0).is(NONE, "fault").is(3, "nibble", 1, 1, 1);
        asked.asks(silent.answers(), "asked on the way");
    }
}
