import java.util.ArrayList;
import java.util.List;
import java.util.Map;

/** Calls on one new object, each with the answer that is due. */
final class Run {
    /** What an object answers behind so many calls is free. */
    static final int MOST_CALLS = 512;

    private final Due due;
    private final TurretPunch punch = new TurretPunch();
    private final List<Call> calls = new ArrayList<>();

    Run(Due due) {
        this.due = due;
    }

    /** A new object on which a text is LAID. */
    static Run laid(Due due, String text) {
        Run run = new Run(due).write(text);
        due.holds(text + " can be laid", run.make(new Call("lay")) >= 1);
        return run;
    }

    /** Writes a text behind THE TEXT. */
    Run write(String text) {
        for (int i = 0; i < text.length(); i++) {
            make(new Call("write", text.charAt(i)));
        }
        return this;
    }

    Run is(int want, String name, int... args) {
        Call call = new Call(name, args);
        due.is(call.toString(), make(call), want);
        return this;
    }

    /** The call is answered so, and all that can be asked answers as before it. */
    Run refused(int want, String name, int... args) {
        Map<String, Integer> before = Questions.answered(calls);
        is(want, name, args);
        return asks(before, "behind " + new Call(name, args));
    }

    /** The change is made, and UNDONE gives back all that can be asked; for at most five changes before it. */
    Run undone(int want, String name, int... args) {
        Map<String, Integer> before = Questions.answered(calls);
        is(want, name, args).is(before.get("count(11)"), "undo");
        return asks(before, "when undone is " + new Call(name, args));
    }

    /** All that can be asked has these answers. */
    Run asks(Map<String, Integer> want, String when) {
        Map<String, Integer> got = Questions.answered(calls);
        due.is("questions " + when, got.size(), want.size());
        for (Map.Entry<String, Integer> one : want.entrySet()) {
            due.is(one.getKey() + " " + when, got.getOrDefault(one.getKey(), Integer.MIN_VALUE), one.getValue());
        }
        return this;
    }

    Map<String, Integer> answers() {
        return Questions.answered(calls);
    }

    /** What a call would answer now; it is made on another object. */
    int wouldAnswer(String name, int... args) {
        return new Call(name, args).on(Questions.madeAgain(calls));
    }

    /** All that is DRAWN. */
    Run draws(String want) {
        for (int k = 0; k < want.length(); k++) {
            is(want.charAt(k), "drawn", k);
        }
        return is(TurretPunch.NONE, "drawn", want.length());
    }

    private int make(Call call) {
        calls.add(call);
        if (calls.size() > MOST_CALLS) {
            throw new IllegalStateException("a test makes more than 512 calls on one object");
        }
        return call.on(punch);
    }
}
