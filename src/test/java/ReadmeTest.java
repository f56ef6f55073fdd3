import java.io.IOException;
import java.lang.reflect.Method;
import java.lang.reflect.Modifier;
import java.nio.file.Files;
import java.nio.file.Path;
import java.util.HashSet;
import java.util.Set;
import java.util.regex.Matcher;
import java.util.regex.Pattern;

/** The examples of README.md answer what stands beside them, and it tells of each call. */
public final class ReadmeTest {
    private static final Pattern EXAMPLE = Pattern.compile("^x\\.(\\w+)\\(([^)]*)\\); +// (-?\\d+)\\b.*$");
    private static final Pattern TEXT =
        Pattern.compile("^for \\(char sign : \"([^\"]*)\"\\.toCharArray\\(\\)\\) \\{$");

    private static final Set<String> CALLED = new HashSet<>();

    public static void main(String[] args) throws IOException {
        String readme = Files.readString(Path.of("README.md"));
        String[] parts = readme.split("```");
        for (int i = 1; i < parts.length; i += 2) {
            if (parts[i].startsWith("java\n")) {
                examples(parts[i].split("\n"));
            }
        }
        for (Method method : TwiceStolen.class.getDeclaredMethods()) {
            if (Modifier.isPublic(method.getModifiers())) {
                String name = method.getName();
                Due.due("README tells of " + name, readme.contains("`" + name + "(") ? 1 : 0, 1);
            }
        }
        Due.due("calls with an example", CALLED.size() >= 20 ? 1 : 0, 1);
        Due.end();
    }

    private static void examples(String[] lines) {
        TwiceStolen x = new TwiceStolen();
        for (String line : lines) {
            Matcher example = EXAMPLE.matcher(line);
            Matcher text = TEXT.matcher(line);
            if (example.matches()) {
                CALLED.add(example.group(1));
                long got = Calls.answer(x, example.group(1), numbers(example.group(2)));
                Due.due(line, got, Long.parseLong(example.group(3)));
            } else if (text.matches()) {
                Due.text(x, text.group(1));
            } else {
                boolean isKnown = line.matches("java|TwiceStolen x = new TwiceStolen\\(\\);|    x\\.say\\(sign\\);.*|\\}");
                Due.due("a line without an answer: " + line, isKnown ? 1 : 0, 1);
            }
        }
    }

    private static int[] numbers(String arguments) {
        if (arguments.isEmpty()) {
            return new int[0];
        }
        String[] texts = arguments.split(", ");
        int[] numbers = new int[texts.length];
        for (int i = 0; i < texts.length; i++) {
            numbers[i] = texts[i].startsWith("'") ? texts[i].charAt(1) : Integer.parseInt(texts[i]);
        }
        return numbers;
    }
}
