import java.io.IOException;
import java.lang.reflect.Method;
import java.lang.reflect.Modifier;
import java.nio.file.Files;
import java.nio.file.Path;
import java.util.ArrayList;
import java.util.List;
import java.util.regex.Matcher;
import java.util.regex.Pattern;

/** README.md: its examples answer what stands behind them, and it names every call and every test. */
public final class ReadmeTest {
    private static final Pattern EXAMPLE = Pattern.compile("```java\n(.*?)```", Pattern.DOTALL);
    private static final Pattern CALL = Pattern.compile("court\\.(\\w+)\\((.*?)\\);\\s*// (?:FINDING: )?([-\\w]+).*");
    private static final String START = "PictureCourt court = new PictureCourt();";
    private static final Runs R = new Runs();

    public static void main(String[] args) throws IOException {
        R.term("README.md");
        String text = Files.readString(Path.of("README.md"));
        examples(text);
        calls(text);
        tests(text);
        R.end();
    }

    private static void examples(String text) {
        Matcher example = EXAMPLE.matcher(text);
        int many = 0;
        for (; example.find(); many++) {
            R.run(runOf(example.group(1)));
        }
        R.checks().holds("there are examples", many > 0);
    }

    private static String runOf(String example) {
        List<String> calls = new ArrayList<>();
        for (String line : example.split("\n")) {
            Matcher call = CALL.matcher(line);
            if (call.matches()) {
                String arguments = call.group(2).replace("PictureCourt.", "").replace(",", "");
                calls.add(call.group(1) + " " + arguments + " = " + call.group(3));
            } else {
                R.checks().holds("a call with its answer: " + line, line.equals(START));
            }
        }
        return String.join("; ", calls);
    }

    private static void calls(String text) {
        for (Method method : PictureCourt.class.getDeclaredMethods()) {
            String name = method.getName();
            if (Modifier.isPublic(method.getModifiers())) {
                R.checks().holds(name + " is named", text.contains("`" + name + "`") || text.contains("`" + name + "()`"));
            }
        }
    }

    private static void tests(String text) throws IOException {
        try (var files = Files.list(Path.of("src/test/java"))) {
            for (Path file : files.toList()) {
                String name = file.getFileName().toString().replace(".java", "");
                boolean isTest = name.endsWith("Test");
                R.checks().holds(name + " is named", !isTest || text.contains("| `" + name + "` |"));
            }
        }
    }
}
