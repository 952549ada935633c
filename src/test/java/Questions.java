import java.util.ArrayList;
import java.util.LinkedHashMap;
import java.util.List;
import java.util.Map;

/**
 * All that can be asked of an object, from one below each number's range to one above it. They are more
 * questions than an object answers, so the calls are made again on as many objects as are needed.
 */
final class Questions {
    private static final int ROOM = 220;

    private Questions() {
    }

    static TurretPunch madeAgain(List<Call> calls) {
        TurretPunch punch = new TurretPunch();
        for (Call call : calls) {
            call.on(punch);
        }
        return punch;
    }

    static Map<String, Integer> answered(List<Call> calls) {
        int room = Run.MOST_CALLS - calls.size();
        if (room < ROOM) {
            throw new IllegalStateException("a test leaves no room for its questions");
        }
        Map<String, Integer> answers = new LinkedHashMap<>();
        List<Call> questions = all(madeAgain(calls));
        TurretPunch punch = null;
        for (int i = 0; i < questions.size(); i++) {
            if (i % room == 0) {
                punch = madeAgain(calls);
            }
            answers.put(questions.get(i).toString(), questions.get(i).on(punch));
        }
        whatIsUndone(answers, madeAgain(calls));
        whatTheTextTells(answers, madeAgain(calls));
        answers.put("wipe()", madeAgain(calls).wipe());
        return answers;
    }

    private static List<Call> all(TurretPunch p) {
        int w = p.count(0);
        int h = p.count(1);
        int stations = p.count(2);
        int holes = p.count(3);
        List<Call> all = new ArrayList<>();
        all.add(new Call("fault"));
        grid(all, "count", -1, 13);
        grid(all, "column", -1, p.count(4));
        grid(all, "plan", -3, holes);
        grid(all, "drawn", -1, (w + 1) * h);
        grid(all, "station", -1, stations, -1, 7);
        grid(all, "hole", -1, holes, -1, 6);
        grid(all, "hits", -1, holes, -1, stations, -1, 2);
        grid(all, "cell", -1, w, -1, h, -1, 3);
        grid(all, "why", 0, stations - 1, -1, w, -1, h, 0, 1);
        return all;
    }

    /** A question for each choice of numbers; of each number the lowest and the highest are told. */
    private static void grid(List<Call> all, String name, int... ranges) {
        int[] args = new int[ranges.length / 2];
        for (int i = 0; i < args.length; i++) {
            args[i] = ranges[2 * i];
        }
        int turning = 0;
        while (turning < args.length) {
            all.add(new Call(name, args));
            for (turning = 0; turning < args.length; turning++) {
                args[turning]++;
                if (args[turning] <= ranges[2 * turning + 1]) {
                    break;
                }
                args[turning] = ranges[2 * turning];
            }
        }
    }

    private static void whatIsUndone(Map<String, Integer> answers, TurretPunch p) {
        int stations = p.count(2);
        int holes = p.count(3);
        for (int i = 1; i <= 7; i++) {
            String when = "undone " + i + ": ";
            answers.put(when + "undo()", p.undo());
            for (int what = 5; what <= 11; what++) {
                answers.put(when + "count " + what, p.count(what));
            }
            for (int s = 0; s < stations; s++) {
                answers.put(when + "worn " + s, p.station(s, 4));
            }
            for (int k = 0; k < holes; k++) {
                answers.put(when + "left of " + k, p.hole(k, 4));
            }
            answers.put(when + "column 0", p.column(0));
            answers.put(when + "column 1", p.column(1));
        }
    }

    private static void whatTheTextTells(Map<String, Integer> answers, TurretPunch p) {
        answers.put("lay()", p.lay());
        for (int what = 0; what <= 12; what++) {
            answers.put("laid: count " + what, p.count(what));
        }
    }
}
