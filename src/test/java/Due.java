import java.io.IOException;
import java.nio.charset.StandardCharsets;
import java.nio.file.Files;
import java.nio.file.Path;

/** Counts the answers that are not as due; what the tests of the project share. */
final class Due {
    private static final Path DOCUMENT = Path.of("../shared/DOC.md");

    private static int asked = 0;
    private static int wrong = 0;
    private static String document = null;
    private static String sentence = "";

    private Due() {
    }

    static void due(String call, long got, long want) {
        asked++;
        if (got != want) {
            wrong++;
            if (wrong <= 50) {
                System.out.println(sentence + call + " answered " + got + ", due is " + want);
            }
        }
    }

    /** What follows is about these words; that the document has them so is looked at, too. */
    static void sentence(String words) {
        if (document == null) {
            document = readDocument();
        }
        sentence = "";
        if (!document.isEmpty()) {
            due("the document says: " + words, document.contains(words) ? 1 : 0, 1);
        }
        sentence = "\"" + words + "\": ";
    }

    private static String readDocument() {
        try {
            return Files.exists(DOCUMENT) ? Files.readString(DOCUMENT, StandardCharsets.UTF_8) : "";
        } catch (IOException e) {
            return "";
        }
    }

    /** Says a text sign by sign on an empty pad. */
    static TwiceStolen text(TwiceStolen x, String signs) {
        x.wipe();
        for (int i = 0; i < signs.length(); i++) {
            due("say in " + signs, x.say(signs.charAt(i)), i + 1);
        }
        return x;
    }

    /** All that told() tells but the pad, so that two states can be compared. */
    static String state(TwiceStolen x) {
        StringBuilder all = new StringBuilder();
        for (int what = 1; what < 220; what++) {
            all.append(x.told(what)).append(' ');
        }
        for (int i = -1; i < 120; i++) {
            all.append(x.fits(i)).append(' ');
        }
        return all.toString();
    }

    static void same(String call, String got, String want) {
        due(call + ": as before (1)", got.equals(want) ? 1 : 0, 1);
    }

    static void end() {
        System.out.println(asked + " answers, " + wrong + " not as due");
        System.exit(wrong == 0 && asked > 0 ? 0 : 1);
    }
}
