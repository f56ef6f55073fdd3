import java.io.IOException;
import java.nio.charset.StandardCharsets;
import java.nio.file.Files;
import java.nio.file.Path;
import java.util.regex.Matcher;
import java.util.regex.Pattern;

/** The rules of ../shared/LANGUAGE.md that can be seen in the text of the class. */
public final class LanguageTest {
    private static final String[] NEVER = {
        "\\b(throw|try|catch|finally|synchronized|assert|import|package|record|sealed|var|native|volatile)\\b",
        "\\b(new\\s+Object|Object|Thread|System\\.(?!arraycopy)|Runtime|Random|hashCode|toString)\\b",
        "->", "::", "\\w+Exact\\b", "\\bprotected\\b", "\\binstanceof\\b", "\\bgoto\\b"};

    public static void main(String[] args) throws IOException {
        Path file = Path.of(args.length > 0 ? args[0] : "src/main/java/TwiceStolen.java");
        String whole = Files.readString(file, StandardCharsets.UTF_8);
        String code = withoutCommentsAndSigns(whole);
        for (String never : NEVER) {
            Matcher found = Pattern.compile(never).matcher(code);
            Due.due("there is " + never, found.find() ? 1 : 0, 0);
        }
        for (int i = 0; i < whole.length(); i++) {
            Due.due("sign " + (int) whole.charAt(i), whole.charAt(i) < 127 ? 1 : 0, 1);
        }
        staticsAreFinal(code);
        indexesAreGuarded(code);
        methodsAreShort(code);
        noCallMakesAnObject(code);
        Due.end();
    }

    private static String withoutCommentsAndSigns(String text) {
        return text.replaceAll("(?s)/\\*.*?\\*/", "").replaceAll("//[^\n]*", "").replaceAll("'(\\\\.|[^'])'", "0");
    }

    private static void staticsAreFinal(String code) {
        Matcher field = Pattern.compile("(?m)^.*\\bstatic\\b[^(]*[;=].*$").matcher(code);
        while (field.find()) {
            Due.due(field.group().trim(), field.group().contains("final") ? 1 : 0, 1);
        }
        Due.due("static blocks", Pattern.compile("static\\s*\\{").matcher(code).find() ? 1 : 0, 0);
    }

    // rows are reached by Row.at and Row.put alone, and by loops that end with the row
    private static void indexesAreGuarded(String code) {
        Matcher index = Pattern.compile("\\b(\\w+)\\[(\\w+[^\\]]*)\\]").matcher(code);
        while (index.find()) {
            if (!index.group(1).equals("int") && !index.group(1).equals("long")) {
                boolean plain = index.group(1).equals("row") || index.group(1).equals("to") || index.group(1).equals("ways");
                Due.due("index " + index.group(), plain ? 1 : 0, 1);
            }
        }
    }

    // the room for all calls of a run is small, so all is made with the object
    private static void noCallMakesAnObject(String code) {
        for (String line : code.split("\n")) {
            if (line.matches(".*\\bnew\\b.*")) {
                boolean isField = line.matches("\\s+(private )?final \\S+ \\w+ = new .*;");
                Due.due("made with the object: " + line.trim(), isField ? 1 : 0, 1);
            }
        }
    }

    private static void methodsAreShort(String code) {
        int begun = 0;
        int line = 0;
        for (String text : code.split("\n")) {
            line++;
            if (text.matches("^\\s+(\\w+ )+\\w+\\(.*\\) \\{$") || text.matches("^    public .*\\($")) {
                begun = line;
                int parameters = text.split(",").length;
                Due.due("parameters of " + text.trim(), parameters <= 7 ? 1 : 0, 1);
            }
            if (text.matches("^(    |        )\\}$") && begun > 0) {
                Due.due("lines up to " + line, line - begun < 60 ? 1 : 0, 1);
                begun = 0;
            }
        }
    }
}
