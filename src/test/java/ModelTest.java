import java.util.Random;

/** Runs of calls by chance (always the same ones) on TurretPunch and on the Model: all answers agree. */
public final class ModelTest {
    private static final int RUNS = 1500;
    private static final int CALLS = 240;
    /** Of one choice of anyCall. */
    private static final int MOST_AT_ONCE = 13;

    private final Due due = new Due();
    private final Random random;
    private final TurretPunch punch = new TurretPunch();
    private final Model model = new Model();
    private final StringBuilder told = new StringBuilder();
    private int calls;

    private ModelTest(int run) {
        random = new Random(run);
    }

    public static void main(String[] args) {
        Due all = new Due();
        for (int run = 0; run < RUNS && !all.anyWrong(); run++) {
            ModelTest test = new ModelTest(run);
            test.run(run);
            all.holds("run " + run + ":" + test.told, !test.due.anyWrong());
        }
        all.end();
    }

    private void run(int run) {
        if (run % 8 != 0) {
            tell(run % 3 == 0 ? spoilt(text()) : text());
            same("fault()", punch.fault(), model.fault());
            same("lay()", punch.lay(), model.lay());
        }
        for (int i = 0; i < CALLS && calls + MOST_AT_ONCE <= Run.MOST_CALLS && !due.anyWrong(); i++) {
            anyCall();
        }
    }

    private void same(String call, int got, int want) {
        calls++;
        told.append(' ').append(call);
        due.is(call, got, want);
    }

    private void tell(String text) {
        told.append(" \"").append(text).append('"');
        for (int i = 0; i < text.length() && i < 201; i++) {
            calls++;
            due.is("write", punch.write(text.charAt(i)), model.write(text.charAt(i)));
        }
    }

    private int from(int least, int most) {
        return least + random.nextInt(most - least + 1);
    }

    private boolean chance(int of) {
        return random.nextInt(of) == 0;
    }

    // ---- texts

    private String text() {
        int w = from(3, 12);
        int h = from(3, 12);
        StringBuilder text = new StringBuilder("sheet " + w + "," + h + ";");
        int tools = from(1, chance(10) ? 7 : 6);
        for (int i = 0; i < tools; i++) {
            int side = chance(3) ? 6 : 3;
            int life = chance(2) ? 99 : from(1, 9);
            text.append("tool " + from(1, side) + "," + from(1, side) + "," + from(0, 1) + "," + life + ";");
        }
        int holes = from(0, chance(5) ? 9 : 5);
        boolean[][] taken = new boolean[12][12];
        for (int i = 0; i < holes; i++) {
            hole(text, taken, w, h);
        }
        int clamps = from(0, 2);
        for (int c = 0; c < clamps; c++) {
            text.append("clamp " + (c == 0 ? from(0, (w - 2) / 2) : from((w - 2) / 2 + 1, w - 2)) + ";");
        }
        return text.toString();
    }

    private void hole(StringBuilder text, boolean[][] taken, int w, int h) {
        int x = from(0, w - 1);
        int y = from(0, h - 1);
        int a = from(1, Math.min(w - x, 6));
        int b = chance(3) ? h - y : from(1, Math.min(h - y, 5));
        boolean free = true;
        for (int i = x; i < x + a; i++) {
            for (int j = y; j < y + b; j++) {
                free &= !taken[i][j];
            }
        }
        if (free || chance(20)) {
            text.append("hole " + x + "," + y + "," + a + "," + b + ";");
            for (int i = x; i < x + a; i++) {
                for (int j = y; j < y + b; j++) {
                    taken[i][j] = true;
                }
            }
        }
    }

    private String spoilt(String text) {
        StringBuilder spoilt = new StringBuilder(text);
        int at = random.nextInt(spoilt.length());
        switch (from(0, 4)) {
            case 0:
                spoilt.setCharAt(at, "0123456789,; shetoolclamp".charAt(random.nextInt(25)));
                break;
            case 1:
                spoilt.deleteCharAt(at);
                break;
            case 2:
                spoilt.insert(at, "0129,; sz".charAt(random.nextInt(9)));
                break;
            case 3:
                spoilt.append(new String[] {"sheet 4,4;", "tool 1,1,1,1;", "hole 0,0,1,1;", "clamp 2;",
                    " ", "tool", "clamp 0"}[random.nextInt(7)]);
                break;
            default:
                spoilt.setLength(at);
        }
        return spoilt.toString();
    }

    // ---- calls

    private int small(int most) {
        return chance(25) ? new int[] {-1, -2, -3, 99, 100, Integer.MAX_VALUE, Integer.MIN_VALUE}[random.nextInt(7)]
                : from(0, most);
    }

    private int station() {
        return chance(25) ? small(7) : random.nextInt(model.count(2));
    }

    private int hole() {
        int holes = model.count(3);
        return holes == 0 || chance(25) ? small(6) : random.nextInt(holes);
    }

    private void anyCall() {
        switch (from(0, 9)) {
            case 0:
            case 1:
                hitCall();
                break;
            case 2:
                nibbleCall();
                break;
            case 3:
                clampCall();
                break;
            case 4:
            case 5:
                planCall();
                break;
            case 6:
                textCall();
                break;
            default:
                lookCall();
        }
    }

    private void hitCall() {
        int s = station();
        int x = small(12);
        int y = small(12);
        int k = hole();
        if (!chance(4) && model.hole(k, 0) >= 0) {
            x = model.hole(k, 0) + random.nextInt(model.hole(k, 2));
            y = model.hole(k, 1) + random.nextInt(model.hole(k, 3));
        }
        int turned = small(1);
        String told = "(" + s + ", " + x + ", " + y + ", " + turned + ")";
        if (chance(2)) {
            same("why" + told, punch.why(s, x, y, turned), model.why(s, x, y, turned));
        }
        same("hit" + told, punch.hit(s, x, y, turned), model.hit(s, x, y, turned));
    }

    private void nibbleCall() {
        int k = hole();
        int s = station();
        int turned = small(1);
        String told = "(" + k + ", " + s + ", " + turned + ")";
        same("hits" + told, punch.hits(k, s, turned), model.hits(k, s, turned));
        same("nibble" + told, punch.nibble(k, s, turned), model.nibble(k, s, turned));
    }

    private void clampCall() {
        int c = small(1);
        int column = small(11);
        if (chance(3)) {
            int s = station();
            same("sharpen(" + s + ")", punch.sharpen(s), model.sharpen(s));
        } else {
            same("clamp(" + c + ", " + column + ")", punch.clamp(c, column), model.clamp(c, column));
        }
        same("column(" + c + ")", punch.column(c), model.column(c));
    }

    private void planCall() {
        if (chance(2)) {
            same("undo()", punch.undo(), model.undo());
            return;
        }
        int k = from(-3, 5);
        same("plan(" + k + ")", punch.plan(k), model.plan(k));
    }

    private void textCall() {
        switch (from(0, 30)) {
            case 0:
                same("wipe()", punch.wipe(), model.wipe());
                break;
            case 1:
                same("lay()", punch.lay(), model.lay());
                break;
            case 2:
                tell("hole 0,0,1,1;".substring(0, from(1, 13)));
                break;
            case 3:
                int letter = from(28, 130);
                same("write(" + letter + ")", punch.write(letter), model.write(letter));
                break;
            default:
                same("fault()", punch.fault(), model.fault());
        }
    }

    private void lookCall() {
        int what = from(-1, 13);
        same("count(" + what + ")", punch.count(what), model.count(what));
        int s = station();
        int of = from(-1, 7);
        same("station(" + s + ", " + of + ")", punch.station(s, of), model.station(s, of));
        int k = hole();
        same("hole(" + k + ", " + of + ")", punch.hole(k, of), model.hole(k, of));
        int x = small(12);
        int y = small(12);
        int is = from(-1, 3);
        same("cell(" + x + ", " + y + ", " + is + ")", punch.cell(x, y, is), model.cell(x, y, is));
        int place = small(160);
        same("drawn(" + place + ")", punch.drawn(place), model.drawn(place));
    }
}
