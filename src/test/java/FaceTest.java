import java.lang.reflect.Constructor;
import java.lang.reflect.Field;
import java.lang.reflect.Method;
import java.lang.reflect.Modifier;
import java.util.Arrays;
import java.util.Set;
import java.util.TreeSet;

/** "The public face": what is visible of the class; and that no call of it throws or makes an object. */
public final class FaceTest {
    private static final Due DUE = new Due();
    private static final Set<String> FACE = new TreeSet<>(Arrays.asList("write(int)", "wipe()", "fault()",
            "lay()", "hit(int,int,int,int)", "why(int,int,int,int)", "nibble(int,int,int)", "clamp(int,int)",
            "sharpen(int)", "undo()", "station(int,int)", "hole(int,int)", "hits(int,int,int)",
            "cell(int,int,int)", "column(int)", "plan(int)", "drawn(int)", "count(int)"));

    public static void main(String[] args) {
        face();
        namesOfTheFace();
        room();
        neverThrows();
        DUE.end();
    }

    private static void face() {
        int modifiers = TurretPunch.class.getModifiers();
        DUE.holds("the class is public and final", Modifier.isPublic(modifiers) && Modifier.isFinal(modifiers));
        Set<String> seen = new TreeSet<>();
        for (Method m : TurretPunch.class.getDeclaredMethods()) {
            String told = m.getName() + "(" + parameters(m.getParameterTypes()) + ")";
            if (Modifier.isPublic(m.getModifiers())) {
                seen.add(told);
                DUE.holds(told + " answers an int, is not static",
                        m.getReturnType() == int.class && !Modifier.isStatic(m.getModifiers()));
            } else {
                DUE.holds(told + " is private", Modifier.isPrivate(m.getModifiers()));
            }
        }
        DUE.holds("the methods are those of the document, not " + seen, seen.equals(FACE));
        Constructor<?>[] constructors = TurretPunch.class.getDeclaredConstructors();
        DUE.holds("one constructor, public, without parameters", constructors.length == 1
                && Modifier.isPublic(constructors[0].getModifiers()) && constructors[0].getParameterCount() == 0);
        Set<String> constants = new TreeSet<>();
        for (Field f : TurretPunch.class.getDeclaredFields()) {
            if (Modifier.isPublic(f.getModifiers())) {
                constants.add(f.getName());
            } else {
                DUE.holds(f.getName() + " is private", Modifier.isPrivate(f.getModifiers()));
            }
        }
        DUE.holds("the constants", constants.equals(new TreeSet<>(Arrays.asList("BAD", "NO", "FULL", "NONE"))));
        DUE.is("BAD", TurretPunch.BAD, -1);
        DUE.is("NO", TurretPunch.NO, -2);
        DUE.is("FULL", TurretPunch.FULL, -3);
        DUE.is("NONE", TurretPunch.NONE, -4);
    }

    private static String parameters(Class<?>[] types) {
        StringBuilder told = new StringBuilder();
        for (Class<?> type : types) {
            told.append(told.length() == 0 ? "" : ",").append(type.getName());
        }
        return told.toString();
    }

    /** Rule 1 of LANGUAGE.md: a name of the face is borne by that one method alone. */
    private static void namesOfTheFace() {
        namesOf(TurretPunch.class);
        for (Class<?> inner : TurretPunch.class.getDeclaredClasses()) {
            namesOf(inner);
        }
    }

    private static void namesOf(Class<?> c) {
        for (Method m : c.getDeclaredMethods()) {
            boolean isOfTheFace = c == TurretPunch.class && Modifier.isPublic(m.getModifiers());
            DUE.holds(m + " bears no name of the face", isOfTheFace
                    || FACE.stream().noneMatch(f -> f.startsWith(m.getName() + "(")));
        }
    }

    /** What is made is made by the constructor: the calls themselves make nothing. */
    private static void room() {
        com.sun.management.ThreadMXBean bean = (com.sun.management.ThreadMXBean)
                java.lang.management.ManagementFactory.getThreadMXBean();
        long thread = Thread.currentThread().getId();
        TurretPunch[] all = new TurretPunch[50];
        for (int i = 0; i < all.length; i++) {
            all[i] = new TurretPunch();
            everyCall(all[i]);
        }
        long before = bean.getThreadAllocatedBytes(thread);
        for (TurretPunch punch : all) {
            for (int i = 0; i < 20; i++) {
                everyCall(punch);
            }
        }
        long made = bean.getThreadAllocatedBytes(thread) - before;
        DUE.holds("1000 times every call makes nothing, not " + made + " bytes", made < 16000);
    }

    /** Each call with every choice of these numbers, on a fresh and a full object; an exception would end the test. */
    private static void neverThrows() {
        for (String told : FACE) {
            int open = told.indexOf('(');
            int parameters = told.substring(open).split("int", -1).length - 1;
            tryAll(told.substring(0, open), parameters, "");
            tryAll(told.substring(0, open), parameters, "sheet 3,12;" + "tool 6,1,1,9;".repeat(6)
                    + "hole 0,0,3,1;hole 0,1,3,1;hole 0,2,1,6;hole 1,2,1,9;hole 2,2,1,10;clamp 1;");
        }
    }

    private static void tryAll(String name, int parameters, String text) {
        int[] numbers = {Integer.MIN_VALUE, -2, -1, 0, 1, 5, 6, 12, 99, 100, Integer.MAX_VALUE};
        int choices = (int) Math.pow(numbers.length, parameters);
        TurretPunch punch = null;
        for (int choice = 0; choice < choices; choice++) {
            if (choice % 300 == 0) {
                punch = new TurretPunch();
                Due.tell(punch, text);
                punch.lay();
            }
            int[] args = new int[parameters];
            int rest = choice;
            for (int i = 0; i < parameters; i++) {
                args[i] = numbers[rest % numbers.length];
                rest /= numbers.length;
            }
            DUE.holds("an answer of " + name, new Call(name, args).on(punch) >= -4);
        }
    }

    private static void everyCall(TurretPunch punch) {
        punch.write('x');
        punch.fault();
        punch.wipe();
        punch.lay();
        punch.hit(0, 1, 1, 0);
        punch.why(0, 1, 1, 0);
        punch.nibble(1, 2, 0);
        punch.clamp(0, 3);
        punch.sharpen(0);
        punch.station(0, 6);
        punch.hole(0, 4);
        punch.hits(0, 0, 0);
        punch.cell(1, 1, 2);
        punch.column(0);
        punch.plan(-1);
        punch.drawn(80);
        punch.count(9);
        for (int i = 0; i < 4; i++) {
            punch.undo();
        }
    }
}
