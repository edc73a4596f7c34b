import java.net.URL;
import java.net.URLClassLoader;
import java.nio.file.Files;
import java.nio.file.Path;
import java.util.ArrayList;
import java.util.List;
import java.util.regex.Matcher;
import java.util.regex.Pattern;
import javax.tools.ToolProvider;

/** README.md's example compiles, and its calls answer what the page says. */
public final class ReadmeTest {
    private static final Pattern JAVA = Pattern.compile("```java\n(.*?)```", Pattern.DOTALL);
    private static final Pattern ANSWERED = Pattern.compile("(?:int (\\w+) = )?(.*);\\s+// (\\S+)");

    private ReadmeTest() {
    }

    public static void main(String[] args) throws Exception {
        List<String> blocks = new ArrayList<>();
        Matcher found = JAVA.matcher(Files.readString(Path.of("README.md")));
        while (found.find()) {
            blocks.add(found.group(1));
        }
        Check.due("the page has a helper and an example", blocks.size(), 2);
        Path made = Files.createTempDirectory("readme");
        try {
            run(made, source(blocks.get(0), blocks.get(1)));
        } finally {
            for (String name : List.of("Example.java", "Example.class", "")) {
                Files.deleteIfExists(made.resolve(name));
            }
        }
        Check.end("ReadmeTest");
    }

    private static String source(String helper, String example) {
        StringBuilder source = new StringBuilder("public class Example {\n").append(helper)
                .append("public static void ask(java.util.List<Object> seen) throws Exception {\n");
        for (String line : example.split("\n")) {
            Matcher answered = ANSWERED.matcher(line);
            if (!answered.matches()) {
                source.append(line).append("\n");
            } else if (answered.group(1) != null) {
                source.append(line).append("\nseen.add(").append(answered.group(1)).append(");\n");
                source.append(due(answered.group(3)));
            } else {
                source.append("try { seen.add(").append(answered.group(2)).append("); }")
                        .append(" catch (RuntimeException e) { seen.add(e.getClass().getSimpleName()); }\n");
                source.append(due(answered.group(3)));
            }
        }
        return source.append("}\n}\n").toString();
    }

    private static String due(String answer) {
        return "seen.add(\"" + answer + "\");\n";
    }

    private static void run(Path made, String source) throws Exception {
        Path file = Files.writeString(made.resolve("Example.java"), source);
        int failed = ToolProvider.getSystemJavaCompiler().run(null, null, null, "-cp",
                System.getProperty("java.class.path"), "-d", made.toString(), file.toString());
        Check.due("the example compiles", failed, 0);
        List<Object> seen = new ArrayList<>();
        try (URLClassLoader loader = new URLClassLoader(new URL[] {made.toUri().toURL()})) {
            loader.loadClass("Example").getMethod("ask", List.class).invoke(null, seen);
        }
        Check.due("calls with an answer", seen.size() > 50, true);
        for (int i = 0; i + 1 < seen.size(); i += 2) {
            Check.due("the page's answer " + (i / 2 + 1), seen.get(i).toString(), seen.get(i + 1));
        }
    }
}
