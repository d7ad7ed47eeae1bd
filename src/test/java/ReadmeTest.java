import java.io.File;
import java.lang.reflect.Method;
import java.lang.reflect.Modifier;
import java.net.URL;
import java.net.URLClassLoader;
import java.nio.file.Files;
import java.nio.file.Path;
import java.util.ArrayList;
import java.util.List;
import java.util.regex.Matcher;
import java.util.regex.Pattern;
import javax.tools.ToolProvider;

/** What README.md says of the class is so: its example answers what it tells, and its table has every call. */
public final class ReadmeTest {
    private static final Pattern BLOCK = Pattern.compile("(?s)```java\n(.*?)```");
    /** A call with the answer that the README tells of it. */
    private static final Pattern TOLD = Pattern.compile("^(x\\..*); +// (true|false|-?\\d+): .*$");

    private ReadmeTest() {
    }

    public static void main(String[] args) throws Exception {
        Check check = new Check();
        String readme = Files.readString(Path.of("README.md"));
        example(check, readme);
        table(check, readme);
        check.finish();
    }

    private static void example(Check check, String readme) throws Exception {
        Matcher block = BLOCK.matcher(readme);
        check.yes("README.md has an example", block.find());
        List<String> calls = new ArrayList<>();
        List<String> told = new ArrayList<>();
        StringBuilder body = new StringBuilder();
        for (String line : block.group(1).split("\n")) {
            Matcher call = TOLD.matcher(line);
            if (call.matches()) {
                calls.add(call.group(1));
                told.add(call.group(2));
                body.append("answers.add(\"\" + ").append(call.group(1)).append(");\n");
            } else {
                body.append(line).append('\n');
            }
        }
        check.yes("the example tells answers", !told.isEmpty());
        List<String> answers = run(body.toString());
        for (int i = 0; i < told.size(); i++) {
            check.due(calls.get(i) + " in README.md", answers.get(i), told.get(i));
        }
    }

    private static List<String> run(String body) throws Exception {
        Path place = Files.createTempDirectory("readme");
        Path source = place.resolve("Example.java");
        Path compiled = place.resolve("Example.class");
        try {
            Files.writeString(source, "public class Example { public static void run(java.util.List<String> answers) {\n"
                + body + "} }\n");
            int failed = ToolProvider.getSystemJavaCompiler().run(null, null, null,
                "-cp", System.getProperty("java.class.path"), "-d", place.toString(), source.toString());
            if (failed != 0) {
                throw new IllegalStateException("the example in README.md does not compile");
            }
            List<String> answers = new ArrayList<>();
            try (URLClassLoader loader = new URLClassLoader(new URL[] {place.toUri().toURL()})) {
                loader.loadClass("Example").getMethod("run", List.class).invoke(null, answers);
            }
            return answers;
        } finally {
            for (File file : new File[] {source.toFile(), compiled.toFile(), place.toFile()}) {
                file.delete();
            }
        }
    }

    private static void table(Check check, String readme) {
        check.yes("the table has new SealedRecords(limit)", readme.contains("\n| `new SealedRecords(limit)` | "));
        int calls = 0;
        for (Method m : SealedRecords.class.getDeclaredMethods()) {
            if (Modifier.isPublic(m.getModifiers())) {
                calls++;
                Matcher row = Pattern.compile("(?m)^\\| `" + m.getName() + "\\(([^)]*)\\)` \\| ").matcher(readme);
                boolean found = row.find();
                check.yes("the table has " + m.getName(), found);
                check.due("arguments of " + m.getName() + " in the table",
                    found ? row.group(1).split(", ").length : 0, m.getParameterCount());
            }
        }
        Matcher rows = Pattern.compile("(?m)^\\| `\\w+\\([^)]*\\)` \\| ").matcher(readme);
        check.due("calls in the table", rows.results().count(), calls);
    }
}
