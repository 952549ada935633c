import java.io.IOException;
import java.io.UncheckedIOException;
import java.nio.file.Files;
import java.nio.file.Path;

/** Compares answers with those that are due, and tells those that are not. */
final class Due {
    private static final Path DOCUMENT = Path.of("../shared/DOC.md");

    private int asked;
    private int wrong;
    private String document;
    private String sentence = "";

    /** What follows is due by these words, which must stand in the document (blanks may be more there). */
    void sentence(String words) {
        if (document == null) {
            document = inOneLine(DOCUMENT);
        }
        sentence = "";
        holds("the document says: " + words, document.contains(words));
        sentence = "[" + words + "] ";
    }

    private static String inOneLine(Path file) {
        try {
            return Files.readString(file).replaceAll("\\s+", " ");
        } catch (IOException e) {
            throw new UncheckedIOException(e);
        }
    }

    void is(String what, long got, long want) {
        asked++;
        if (got != want) {
            wrong++;
            System.out.println(sentence + what + " answered " + got + ", due is " + want);
        }
    }

    void holds(String what, boolean so) {
        asked++;
        if (!so) {
            wrong++;
            System.out.println(sentence + "does not hold: " + what);
        }
    }

    boolean anyWrong() {
        return wrong != 0;
    }

    /** Ends the test; with exit code 1 if an answer was wrong. */
    void end() {
        System.out.println(asked + " answers looked at, " + wrong + " not as due");
        if (wrong != 0 || asked == 0) {
            System.exit(1);
        }
    }

    /** Writes a text behind THE TEXT. */
    static void tell(TurretPunch punch, String text) {
        for (int i = 0; i < text.length(); i++) {
            punch.write(text.charAt(i));
        }
    }

    /** A new object on which a text is LAID. */
    static TurretPunch laid(String text) {
        TurretPunch punch = new TurretPunch();
        tell(punch, text);
        if (punch.lay() < 1) {
            System.out.println("could not be laid: " + text);
            System.exit(1);
        }
        return punch;
    }

    /** All that is DRAWN. */
    static String drawing(TurretPunch punch) {
        StringBuilder all = new StringBuilder();
        for (int k = 0; k < 1000; k++) {
            int letter = punch.drawn(k);
            if (letter < 0) {
                break;
            }
            all.append((char) letter);
        }
        return all.toString();
    }
}
