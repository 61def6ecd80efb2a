import java.lang.reflect.Method;
import java.lang.reflect.Modifier;
import java.nio.file.Files;
import java.nio.file.Path;
import java.util.ArrayList;
import java.util.List;
import java.util.Map;
import java.util.TreeMap;
import java.util.regex.Matcher;
import java.util.regex.Pattern;

/** README.md's example answers what its comments say, and its table names each call. Run from the project's root. */
public final class ReadmeTest {
    private static final Pattern CALL = Pattern.compile("(?:int (\\w+) = )?barn\\.(\\w+)\\((.*?)\\);\\s*(?:// (.*))?");

    private final Run run = new Run();
    private final Map<String, String> variables = new TreeMap<>();

    private ReadmeTest() {
    }

    public static void main(String[] args) throws Exception {
        String text = Files.readString(Path.of("README.md"));
        Run.under("README.md");
        new ReadmeTest().example(text.substring(text.indexOf("```java\n") + 8, text.indexOf("\n```\n")).split("\n"));
        table(text);
        Check.end();
    }

    private void example(String[] lines) {
        Check.due("the first line", "PegbarBarn barn = new PegbarBarn();", () -> lines[0]);
        for (int i = 1; i < lines.length; i++) {
            if (!lines[i].isBlank()) {
                line(lines[i]);
            }
        }
        Check.isTrue("there are calls", run.made() > 0);
    }

    private void line(String line) {
        Matcher m = CALL.matcher(line);
        Check.isTrue("is a call: " + line, m.matches());
        if (!m.matches()) {
            return;
        }
        String call = m.group(2) + "(" + numbers(m.group(3)) + ")";
        if (m.group(1) != null) {
            variables.put(m.group(1), run.answer(call));
        } else if (m.group(4) != null) {
            run.due(due(m.group(4)), call);
        } else {
            run.tell(call);
        }
    }

    private String numbers(String inside) {
        List<String> numbers = new ArrayList<>();
        for (String word : inside.split(", ")) {
            numbers.add(variables.getOrDefault(word, word.replace("PegbarBarn.", "")));
        }
        return String.join(", ", numbers);
    }

    /** What the first words of a comment say. */
    private static String due(String comment) {
        return comment.startsWith("throws ") ? comment.replace(' ', '.') : comment.split("[ ,:]")[0];
    }

    private static void table(String text) {
        for (Method m : PegbarBarn.class.getDeclaredMethods()) {
            if (Modifier.isPublic(m.getModifiers())) {
                Matcher line = Pattern.compile("\n\\| `" + m.getName() + "\\(([^)]*)\\)` \\|").matcher(text);
                boolean there = line.find();
                Check.isTrue("the table has " + m.getName(), there);
                if (there) {
                    String names = line.group(1);
                    int many = names.isEmpty() ? 0 : names.split(", ").length;
                    Check.due("arguments of " + m.getName() + " in the table", m.getParameterCount(), () -> many);
                }
            }
        }
    }
}
