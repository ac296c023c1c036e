import java.io.IOException;
import java.lang.reflect.Method;
import java.lang.reflect.Modifier;
import java.net.URL;
import java.net.URLClassLoader;
import java.nio.file.Files;
import java.nio.file.Path;
import java.util.ArrayList;
import java.util.Comparator;
import java.util.List;
import java.util.regex.Matcher;
import java.util.regex.Pattern;
import java.util.stream.Stream;
import javax.tools.ToolProvider;

/** The examples of README.md, made into a program: each answer has to be the one of its comment. */
public final class ReadmeTest {
    private static final Pattern BLOCK = Pattern.compile("```java\n(.*?)```", Pattern.DOTALL);
    /** A call, and behind it the number that it answers, or the exception that it throws. */
    private static final Pattern CALL =
            Pattern.compile("((?:[^;\"]|\"[^\"]*\")*); *// (-?\\d+|throws \\w+)\\b.*");

    private static final List<String> CALLS = new ArrayList<>();
    private static final List<String> WANTED = new ArrayList<>();

    private ReadmeTest() {
    }

    public static void main(String[] args) throws Exception {
        String readme = Files.readString(Path.of(System.getProperty("project", "."), "README.md"));
        List<?> answers = answersOf(programFrom(readme));
        Check.due("answers of the examples", WANTED.size(), answers.size());
        for (int i = 0; i < WANTED.size() && i < answers.size(); i++) {
            Check.same("README.md: " + CALLS.get(i), WANTED.get(i), String.valueOf(answers.get(i)));
        }
        for (Method m : SlipSecret.class.getDeclaredMethods()) {
            boolean isTold = !Modifier.isPublic(m.getModifiers()) || readme.contains("`" + m.getName() + "`");
            Check.due("README.md names " + m.getName(), 1, isTold ? 1 : 0);
        }
        Check.end();
    }

    /** Methods among the examples stay as they are; the rest goes into one method, in order. */
    private static String programFrom(String readme) {
        StringBuilder methods = new StringBuilder();
        StringBuilder body = new StringBuilder();
        Matcher block = BLOCK.matcher(readme);
        while (block.find()) {
            if (block.group(1).startsWith("static ")) {
                methods.append(block.group(1));
            } else {
                statementsOf(block.group(1)).forEach(s -> body.append(answering(s)).append('\n'));
            }
        }
        return "public final class Example {\n" + methods
                + "public static java.util.List<String> answers() {\n"
                + "java.util.List<String> answers = new java.util.ArrayList<>();\n" + body
                + "return answers;\n}\n}\n";
    }

    /** Lines, those that go on in the next one joined with it. */
    private static List<String> statementsOf(String block) {
        List<String> out = new ArrayList<>();
        StringBuilder open = new StringBuilder();
        for (String line : block.split("\n")) {
            open.append(line.trim()).append(' ');
            if (line.matches(".*; *(//.*)?")) {
                out.add(open.toString().trim());
                open.setLength(0);
            }
        }
        Check.same("an example ends within its block", "", open.toString().trim());
        return out;
    }

    private static String answering(String statement) {
        Matcher call = CALL.matcher(statement);
        if (!call.matches()) {
            Check.same("a comment without an answer", "", statement.contains("//") ? statement : "");
            return statement;
        }
        CALLS.add(call.group(1));
        WANTED.add(call.group(2));
        return "try { answers.add(String.valueOf(" + call.group(1) + ")); } catch (RuntimeException e) "
                + "{ answers.add(\"throws \" + e.getClass().getSimpleName()); }";
    }

    private static List<?> answersOf(String program) throws Exception {
        Path folder = Files.createTempDirectory("readme");
        try {
            Path source = Files.writeString(folder.resolve("Example.java"), program);
            int failed = ToolProvider.getSystemJavaCompiler().run(null, null, null, "-cp",
                    System.getProperty("java.class.path"), "-d", folder.toString(), source.toString());
            if (failed != 0) {
                return List.of();
            }
            try (URLClassLoader loader = new URLClassLoader(new URL[] {folder.toUri().toURL()})) {
                return (List<?>) loader.loadClass("Example").getMethod("answers").invoke(null);
            }
        } finally {
            remove(folder);
        }
    }

    private static void remove(Path folder) throws IOException {
        try (Stream<Path> files = Files.walk(folder)) {
            for (Path file : files.sorted(Comparator.reverseOrder()).toList()) {
                Files.delete(file);
            }
        }
    }
}
