import java.io.IOException;
import java.lang.reflect.InvocationTargetException;
import java.lang.reflect.Method;
import java.lang.reflect.Modifier;
import java.net.URL;
import java.net.URLClassLoader;
import java.nio.file.Files;
import java.nio.file.Path;
import java.util.Set;
import java.util.TreeSet;
import java.util.regex.Matcher;
import java.util.regex.Pattern;
import javax.tools.ToolProvider;

/** What the README tells: its example is run, and its table of calls compared with the class. */
public final class ReadmeTest {
    private static final Pattern TOLD = Pattern.compile("(\\S.*);\\s*// answers (.+)");

    private static int answers = 0;

    public static void main(String[] args) throws IOException, ReflectiveOperationException {
        String text = Files.readString(Path.of("README.md"));
        run(between(text, "```java\n", "```"));
        calls(between(text, "| for | calls |", "What each takes"));
        Check.end("ReadmeTest");
    }

    private static String between(String text, String start, String end) {
        int from = text.indexOf(start);
        int to = from < 0 ? -1 : text.indexOf(end, from + start.length());
        if (to < 0) {
            Check.fail("README has nothing between \"" + start + "\" and \"" + end + "\"");
            return "";
        }
        return text.substring(from + start.length(), to);
    }

    private static void run(String example) throws IOException, ReflectiveOperationException {
        Path directory = Files.createTempDirectory("readme");
        Path source = directory.resolve("ReadmeExample.java");
        Path compiled = directory.resolve("ReadmeExample.class");
        Files.writeString(source, program(example));
        try (URLClassLoader loader = new URLClassLoader(new URL[] {directory.toUri().toURL()})) {
            int result = ToolProvider.getSystemJavaCompiler().run(null, System.out, System.out,
                    "-classpath", System.getProperty("java.class.path"), source.toString());
            Check.is("README compiles", result, 0);
            if (result == 0) {
                Class.forName("ReadmeExample", true, loader).getMethod("run").invoke(null);
            }
        } catch (InvocationTargetException e) {
            Check.fail("README's example threw " + e.getCause());
        } finally {
            Files.deleteIfExists(compiled);
            Files.deleteIfExists(source);
            Files.deleteIfExists(directory);
        }
        Check.is("README tells answers", answers > 0, true);
    }

    /** The example with a check in place of each line that tells an answer. */
    private static String program(String example) {
        StringBuilder lines = new StringBuilder();
        lines.append("public final class ReadmeExample {\npublic static void run() {\n");
        for (String line : example.split("\n")) {
            Matcher told = TOLD.matcher(line);
            if (told.matches()) {
                answers++;
                String call = told.group(1);
                lines.append("ReadmeTest.answer(\"").append(call.replace("\"", "\\\"")).append("\", ")
                        .append(call).append(", ").append(told.group(2)).append(");\n");
            } else {
                lines.append(line).append('\n');
            }
        }
        return lines.append("}\n}\n").toString();
    }

    /** For the example, which is loaded apart and so can't see what is not public. */
    public static void answer(String call, long got, long told) {
        Check.is("README: " + call, got, told);
    }

    private static void calls(String table) {
        Set<String> listed = new TreeSet<>();
        Matcher name = Pattern.compile("`(\\w+)`").matcher(table);
        while (name.find()) {
            Check.is("listed once: " + name.group(1), listed.add(name.group(1)), true);
        }
        Set<String> due = new TreeSet<>();
        for (Method method : Spellreform.class.getDeclaredMethods()) {
            if (Modifier.isPublic(method.getModifiers())) {
                due.add(method.getName());
            }
        }
        Check.isText("README lists the calls", String.join(" ", listed), String.join(" ", due));
    }
}
