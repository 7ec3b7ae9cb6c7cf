import java.lang.reflect.Method;
import java.lang.reflect.Modifier;
import java.nio.file.Files;
import java.nio.file.Path;
import java.util.regex.Matcher;
import java.util.regex.Pattern;

/** README.md tells the truth: its examples answer what stands behind them, and it names every call. */
public final class ReadmeTest {
    private static final Path README = Path.of("README.md");
    private static final Pattern BLOCK = Pattern.compile("(?s)```java\n(.*?)```");
    private static final Pattern MADE = Pattern.compile("TurnVoice x = new TurnVoice\\(\\);");
    private static final Pattern TOLD = Pattern.compile("for \\(char letter : \"([^\"]*)\"\\.toCharArray\\(\\)\\) x\\.type\\(letter\\);");
    private static final Pattern ASKED = Pattern.compile("x\\.(\\w+)\\(([-0-9, ]*)\\); +// (-?\\d+)\\b.*");
    private static final Due due = new Due();

    public static void main(String[] args) throws Exception {
        String readme = Files.readString(README);
        Matcher block = BLOCK.matcher(readme);
        int blocks = 0;
        while (block.find()) {
            example(block.group(1).split("\n"));
            blocks++;
        }
        due.is("examples in README.md", blocks, 2);
        for (Method method : TurnVoice.class.getDeclaredMethods()) {
            if (Modifier.isPublic(method.getModifiers())) {
                due.holds(method.getName() + " stands in README.md", readme.contains("| `" + method.getName() + "("));
            }
        }
        due.holds("the command that runs all tests stands in README.md", readme.contains("`.ci/run` runs all tests"));
        due.end();
    }

    private static void example(String[] lines) throws Exception {
        TurnVoice x = new TurnVoice();
        for (String line : lines) {
            Matcher told = TOLD.matcher(line);
            Matcher asked = ASKED.matcher(line);
            if (told.matches()) {
                Towns.add(x, told.group(1));
            } else if (asked.matches()) {
                due.is("README.md: " + line, answer(x, asked.group(1), asked.group(2)), Long.parseLong(asked.group(3)));
            } else {
                due.holds("README.md: understood: " + line, MADE.matcher(line).matches());
            }
        }
    }

    private static long answer(TurnVoice x, String name, String numbers) throws Exception {
        String[] words = numbers.isBlank() ? new String[0] : numbers.split(", *");
        Class<?>[] types = new Class<?>[words.length];
        Object[] values = new Object[words.length];
        for (int i = 0; i < words.length; i++) {
            types[i] = int.class;
            values[i] = Integer.valueOf(words[i]);
        }
        return ((Number) TurnVoice.class.getMethod(name, types).invoke(x, values)).longValue();
    }
}
