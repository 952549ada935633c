import java.util.Arrays;

/** One call of the public face with its arguments. */
final class Call {
    private final String name;
    private final int[] args;

    Call(String name, int... args) {
        this.name = name;
        this.args = args.clone();
    }

    int on(TurretPunch p) {
        switch (name) {
            case "write": return p.write(args[0]);
            case "wipe": return p.wipe();
            case "fault": return p.fault();
            case "lay": return p.lay();
            case "hit": return p.hit(args[0], args[1], args[2], args[3]);
            case "why": return p.why(args[0], args[1], args[2], args[3]);
            case "nibble": return p.nibble(args[0], args[1], args[2]);
            case "clamp": return p.clamp(args[0], args[1]);
            case "sharpen": return p.sharpen(args[0]);
            case "undo": return p.undo();
            case "station": return p.station(args[0], args[1]);
            case "hole": return p.hole(args[0], args[1]);
            case "hits": return p.hits(args[0], args[1], args[2]);
            case "cell": return p.cell(args[0], args[1], args[2]);
            case "column": return p.column(args[0]);
            case "plan": return p.plan(args[0]);
            case "drawn": return p.drawn(args[0]);
            case "count": return p.count(args[0]);
            default: throw new IllegalArgumentException("no such call: " + name);
        }
    }

    @Override
    public String toString() {
        String inside = Arrays.toString(args);
        return name + "(" + inside.substring(1, inside.length() - 1) + ")";
    }
}
