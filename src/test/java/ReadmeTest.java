import java.io.IOException;
import java.net.URL;
import java.net.URLClassLoader;
import java.nio.file.Files;
import java.nio.file.Path;
import java.util.List;
import java.util.regex.Matcher;
import java.util.regex.Pattern;
import javax.tools.ToolProvider;

/** The example of README.md: it compiles, uses each call, and each answer that stands behind a call is right. */
public final class ReadmeTest {
    private static final Pattern EXAMPLE = Pattern.compile("(?s)```java\n(.*?)```");
    private static final Pattern ASKED = Pattern.compile("(?:int (\\w+) = )?(x\\.\\w+\\(.*\\)); +// (-?\\d+|true|false)\\b.*");
    private static final List<String> CALLS = List.of("town", "path", "seconds", "clouds", "road", "least", "crowd",
        "dawn", "hold", "shut", "go", "queue", "on", "foretold", "lacks", "plan", "planned", "counted", "came", "out",
        "told", "at", "count");

    private static String example() throws IOException {
        Matcher m = EXAMPLE.matcher(Files.readString(Path.of("README.md")));
        return m.find() ? m.group(1) : "";
    }

    private static String program(String example) {
        StringBuilder b = new StringBuilder("public final class Example {\n");
        b.append("  static int wrong = 0;\n  static void due(String call, Object got, Object want) {\n");
        b.append("    if (!got.equals(want)) { wrong++; System.out.println(call + \" answered \" + got); }\n  }\n");
        b.append("  public static int wrongAnswers() {\n");
        for (String line : example.split("\n")) {
            Matcher m = ASKED.matcher(line);
            boolean asked = m.matches();
            String got = asked ? m.group(2) : "";
            if (asked && m.group(1) != null) {
                b.append("    ").append(line).append('\n');
                got = m.group(1);
            } else if (!asked) {
                b.append("    ").append(line).append('\n');
            }
            if (asked) {
                b.append("    due(\"").append(m.group(2)).append("\", ").append(got).append(", ").append(m.group(3)).append(");\n");
            }
        }
        return b.append("    return wrong;\n  }\n}\n").toString();
    }

    private static int wrongAnswers(String program) throws Exception {
        Path folder = Files.createTempDirectory("readme");
        Path file = folder.resolve("Example.java");
        Path made = folder.resolve("Example.class");
        try {
            Files.writeString(file, program);
            String path = System.getProperty("java.class.path");
            int failed = ToolProvider.getSystemJavaCompiler().run(null, null, null, "-cp", path, "-d", folder.toString(),
                file.toString());
            if (failed != 0) {
                return 1;
            }
            try (URLClassLoader loader = new URLClassLoader(new URL[] {folder.toUri().toURL()})) {
                return (int) loader.loadClass("Example").getMethod("wrongAnswers").invoke(null);
            }
        } finally {
            Files.deleteIfExists(made);
            Files.deleteIfExists(file);
            Files.deleteIfExists(folder);
        }
    }

    public static void main(String[] args) throws Exception {
        String example = example();
        int wrong = 0;
        for (String call : CALLS) {
            if (!Pattern.compile("x\\." + call + "\\(.*// (-?\\d+|true|false)\\b").matcher(example).find()) {
                wrong++;
                System.out.println("the example has no answer of " + call);
            }
        }
        wrong += wrongAnswers(program(example));
        System.out.println(wrong == 0 ? "the example is right" : wrong + " faults of the example");
        if (wrong != 0) {
            System.exit(1);
        }
    }
}
