import java.io.IOException;
import java.net.URL;
import java.net.URLClassLoader;
import java.nio.file.Files;
import java.nio.file.Path;
import java.util.ArrayList;
import java.util.Comparator;
import java.util.List;
import java.util.regex.Matcher;
import java.util.regex.Pattern;
import javax.tools.ToolProvider;

/** Each call of README.md's example answers what stands behind it. */
public final class ReadmeTest extends Asked {
    private static final Path README = Path.of("README.md");
    private static final Pattern EXAMPLE = Pattern.compile("(?s)```java\n(.*?)```");
    /** A call, the name that its answer gets or none, and what it answers. */
    private static final Pattern CALL = Pattern.compile("(?:int (\\w+) = )?(office\\.\\w+\\(.*?\\)); +// (-?\\d+|true|false)\\b.*");

    public static void main(String[] args) throws Exception {
        Matcher example = EXAMPLE.matcher(Files.readString(README));
        due("README.md has an example", example.find(), true);
        List<String> answers = answers(example.group(1));
        for (int i = 0; i < answers.size(); i += 3) {
            due(answers.get(i), answers.get(i + 1).equals(answers.get(i + 2)), true);
        }
        due("so many calls", answers.size() >= 3 * 30, true);
        end();
    }

    /** Of each call its words, its answer and what is due. */
    private static List<String> answers(String example) throws Exception {
        Path built = Files.createTempDirectory("readme");
        try {
            Path file = Files.writeString(built.resolve("Example.java"), program(example));
            int fault = ToolProvider.getSystemJavaCompiler().run(null, null, null,
                    "-cp", System.getProperty("java.class.path"), "-d", built.toString(), file.toString());
            due("the example can be compiled", fault, 0);
            List<String> answers = new ArrayList<>();
            try (URLClassLoader loader = new URLClassLoader(new URL[] {built.toUri().toURL()})) {
                loader.loadClass("Example").getMethod("run", List.class).invoke(null, answers);
            }
            return answers;
        } finally {
            remove(built);
        }
    }

    private static String program(String example) {
        StringBuilder lines = new StringBuilder();
        for (String line : example.split("\n")) {
            Matcher call = CALL.matcher(line);
            if (!call.matches()) {
                boolean isNoCall = line.isBlank() || line.startsWith("//") || line.equals("StudentSwaps office = new StudentSwaps();");
                due("an answer stands behind: " + line, isNoCall, true);
                lines.append(line).append('\n');
                continue;
            }
            String name = call.group(1);
            String words = call.group(2);
            lines.append(name == null ? "" : "int " + name + " = " + words + ";\n");
            lines.append("answers.add(\"" + words + "\");\n");
            lines.append("answers.add(\"\" + " + (name == null ? words : name) + ");\n");
            lines.append("answers.add(\"" + call.group(3) + "\");\n");
        }
        return "public final class Example {\n"
                + "public static void run(java.util.List<String> answers) {\n" + lines + "}\n}\n";
    }

    private static void remove(Path directory) throws IOException {
        try (var all = Files.walk(directory)) {
            for (Path one : all.sorted(Comparator.reverseOrder()).toList()) {
                Files.delete(one);
            }
        }
    }
}
