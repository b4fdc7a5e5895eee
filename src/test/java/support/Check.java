import java.io.IOException;
import java.nio.file.Files;
import java.nio.file.Path;

/** What the tests share: answers compared with those that are due, and texts fed as numbers. */
final class Check {
    private static final Path DOCUMENT = Path.of("../shared/DOC.md");
    private static int wrong = 0;
    private static int asked = 0;
    private static String sentence = "";
    private static String document;

    private Check() {
    }

    static void due(String what, long got, long want) {
        asked++;
        if (got != want) {
            wrong++;
            if (wrong <= 50) {
                System.out.println(sentence + what + " answered " + got + ", due is " + want);
            }
        }
    }

    /** What follows tests this sentence, which must stand in the document in these words. */
    static void sentence(String words) {
        sentence = "";
        yes("the document says <" + words + ">", document().isEmpty() || document().contains(words));
        sentence = "\"" + words + "\": ";
    }

    private static String document() {
        if (document == null) {
            try {
                document = Files.exists(DOCUMENT) ? Files.readString(DOCUMENT).replaceAll("\\s+", " ") : "";
            } catch (IOException e) {
                document = "";
            }
        }
        return document;
    }

    static void yes(String what, boolean got) {
        due(what, got ? 1 : 0, 1);
    }

    static void no(String what, boolean got) {
        due(what, got ? 1 : 0, 0);
    }

    static int wrong() {
        return wrong;
    }

    /** Feeds a text from its beginning: blanks fill up the last twenty bytes, and are cut off again. */
    static void write(LookTimes x, String text) {
        x.end(0);
        for (int at = 0; at < text.length(); at += 20) {
            x.feed(four(text, at), four(text, at + 4), four(text, at + 8), four(text, at + 12), four(text, at + 16));
        }
        x.end(text.length());
    }

    /** Four bytes of a text as one number, the first the highest; blanks behind its end. */
    static int four(String text, int at) {
        int number = 0;
        for (int i = at; i < at + 4; i++) {
            number = number << 8 | (i < text.length() ? text.charAt(i) : ' ');
        }
        return number;
    }

    /** Writes a text and makes it LAWS. */
    static int laws(LookTimes x, String text) {
        write(x, text);
        return x.laws();
    }

    static int faultOf(String text) {
        LookTimes x = new LookTimes();
        write(x, text);
        return x.fault();
    }

    static void close(String test) {
        System.out.println(test + ": " + asked + " answers, " + wrong + " not as due");
        if (wrong != 0) {
            System.exit(1);
        }
    }
}
