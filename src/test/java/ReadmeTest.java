import java.io.IOException;
import java.lang.reflect.Method;
import java.lang.reflect.Modifier;
import java.net.URL;
import java.net.URLClassLoader;
import java.nio.file.Files;
import java.nio.file.Path;
import java.util.TreeSet;
import java.util.regex.Matcher;
import java.util.regex.Pattern;
import javax.tools.ToolProvider;

/** The example of README.md compiles and answers what its comments say, and README.md tells every call. */
public final class ReadmeTest {
    private static final Pattern ANSWER = Pattern.compile("(room\\..*\\)); *// answers (true|false|-?\\d+)\\b.*");
    private static final Tester t = new Tester();

    public static void main(String[] args) throws IOException, ReflectiveOperationException {
        String readme = Files.readString(Path.of("README.md"));
        runExample(readme.split("```java\n")[1].split("```")[0]);
        tellsEveryCall(readme);
        t.end();
    }

    private static void runExample(String example) throws IOException, ReflectiveOperationException {
        Path folder = Files.createTempDirectory("readme");
        Path source = folder.resolve("Example.java");
        Path compiled = folder.resolve("Example.class");
        Files.writeString(source, program(example));
        String classes = System.getProperty("java.class.path");
        int failed = ToolProvider.getSystemJavaCompiler().run(null, null, null, "-cp", classes, source.toString());
        t.due("compiling the example", failed, 0);
        if (failed == 0) {
            try (URLClassLoader loader = new URLClassLoader(new URL[] {folder.toUri().toURL()})) {
                String[][] answers = (String[][]) loader.loadClass("Example").getMethod("answers").invoke(null);
                for (String[] answer : answers) {
                    t.due(answer[0], answer[1], answer[2]);
                }
                t.due("the example tells answers", answers.length > 20, true);
            }
        }
        Files.deleteIfExists(compiled);
        Files.delete(source);
        Files.delete(folder);
    }

    /** Each line with an answer becomes a row of the call, what it answered, and what the comment says. */
    private static String program(String example) {
        StringBuilder text = new StringBuilder("import java.util.*; public final class Example {\n");
        text.append("public static String[][] answers() { List<String[]> rows = new ArrayList<>();\n");
        for (String line : example.split("\n")) {
            Matcher answer = ANSWER.matcher(line);
            if (answer.matches()) {
                String call = answer.group(1);
                text.append("rows.add(new String[] {\"" + call + "\", String.valueOf(" + call + "), \"");
                text.append(answer.group(2) + "\"});\n");
            } else {
                t.due("a line of the example tells no answer: " + line, line.contains("answers"), false);
                text.append(line).append('\n');
            }
        }
        return text.append("return rows.toArray(new String[0][]); } }\n").toString();
    }

    private static void tellsEveryCall(String readme) {
        TreeSet<String> told = new TreeSet<>();
        Matcher call = Pattern.compile("`(\\w+)\\(([\\w, ]*)\\)`").matcher(readme);
        while (call.find()) {
            int parameters = call.group(2).isEmpty() ? 0 : call.group(2).split(",").length;
            told.add(call.group(1) + " " + parameters);
        }
        TreeSet<String> due = new TreeSet<>();
        for (Method method : RoomClimate.class.getDeclaredMethods()) {
            if (Modifier.isPublic(method.getModifiers())) {
                due.add(method.getName() + " " + method.getParameterCount());
            }
        }
        t.due("the calls that README.md tells, with how many arguments", told, due);
    }
}
