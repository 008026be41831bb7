import java.io.IOException;
import java.net.URL;
import java.net.URLClassLoader;
import java.nio.file.Files;
import java.nio.file.Path;
import java.util.List;
import java.util.regex.Matcher;
import java.util.regex.Pattern;
import javax.tools.ToolProvider;

/** The example of README.md compiles as it stands there, and answers what is said behind its calls. */
public final class ReadmeTest {
    private static final Pattern CALL = Pattern.compile("(ears\\..+);\\s+// ([^:]+)(?:: .*)?");
    private static final String HEAD = "public final class Example {\n"
        + "    public static void run(java.util.List<long[]> answers) {\n";

    private static final StringBuilder source = new StringBuilder(HEAD);

    public static void main(String[] args) throws Exception {
        readExample();
        List<long[]> answers = new java.util.ArrayList<>();
        Class<?> example = compiled();
        example.getMethod("run", List.class).invoke(null, answers);
        for (long[] answer : answers) {
            Answers.due("README.md, line " + answer[0], answer[1], answer[2]);
        }
        Answers.due("README.md has an example of some length", answers.size() > 20 ? 1 : 0, 1);
        Answers.end();
    }

    private static void readExample() throws IOException {
        boolean inside = false;
        int number = 0;
        for (String line : Files.readAllLines(Path.of("README.md"))) {
            number++;
            if (line.startsWith("```")) {
                inside = line.equals("```java");
            } else if (inside) {
                source.append(toldLine(number, line)).append('\n');
            }
        }
        source.append("    }\n}\n");
    }

    /** The line as it stands, or, of a call with an answer behind it, one that hands out both. */
    private static String toldLine(int number, String line) {
        Matcher call = CALL.matcher(line);
        if (!call.matches()) {
            return line;
        }
        return "answers.add(new long[] {" + number + ", " + call.group(1) + ", " + call.group(2) + "});";
    }

    private static Class<?> compiled() throws IOException, ClassNotFoundException {
        Path directory = Files.createTempDirectory(Path.of("build"), "readme");
        Path file = directory.resolve("Example.java");
        Files.writeString(file, source);
        int code = ToolProvider.getSystemJavaCompiler().run(null, null, null,
            "-cp", System.getProperty("java.class.path"), "-d", directory.toString(), file.toString());
        Answers.due("the example of README.md compiles", code, 0);
        URL[] places = {directory.toUri().toURL()};
        return Class.forName("Example", true, new URLClassLoader(places, ReadmeTest.class.getClassLoader()));
    }
}
