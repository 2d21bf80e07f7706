import java.io.File;
import java.io.IOException;
import java.lang.reflect.Method;
import java.lang.reflect.Modifier;
import java.nio.file.Files;
import java.nio.file.Path;
import java.util.regex.Matcher;
import java.util.regex.Pattern;
import javax.tools.ToolProvider;

/** What README.md shows: each call of its example answers what stands behind it; all calls and tests are named. */
public final class ReadmeTest {
    private static final Path README = Path.of("README.md");
    private static final Pattern EXAMPLE = Pattern.compile("(?s)```java\n(.*?)```");
    /** A variable or none, the call, the answer, and what is said of it or nothing. */
    private static final Pattern CALL = Pattern.compile("(int \\w+ = )?(walk\\..+); +// ([^:]+)(: .+)?");
    private static final Pattern THROWN = Pattern.compile("throws (\\w+)");
    private static final String MADE = "CairnCipher walk = new CairnCipher();";

    private static int calls = 0;

    public static void main(String[] args) throws Exception {
        String readme = Files.readString(README);
        runExample(readme);
        namesAllCalls(readme);
        namesAllFiles(readme);
        Check.end();
    }

    private static void runExample(String readme) throws Exception {
        Matcher example = EXAMPLE.matcher(readme);
        Check.due("README.md has an example", example.find(), true);
        StringBuilder body = new StringBuilder();
        for (String line : example.group(1).split("\n")) {
            body.append(checkOf(line)).append('\n');
        }
        Check.due("there is one example", example.find(), false);
        compile("final class ReadmeExample { static void run() {\n" + body + "} }\n");
        Method run = Class.forName("ReadmeExample").getDeclaredMethod("run");
        run.setAccessible(true);
        run.invoke(null);
        Check.due("calls of the example, enough", calls > 10, true);
    }

    /** The line as a statement that compares the answer with the one that is written behind the call. */
    private static String checkOf(String line) {
        Matcher call = CALL.matcher(line);
        if (!call.matches()) {
            Check.due("a line of the example", line.isBlank() || line.equals(MADE), true);
            return line;
        }
        calls++;
        String name = "\"README.md's " + call.group(2).replace("\"", "\\\"") + "\"";
        Matcher thrown = THROWN.matcher(call.group(3));
        if (thrown.matches()) {
            return "Check.dueThrow(" + name + ", " + thrown.group(1) + ".class, () -> " + call.group(2) + ");";
        }
        String due = "Check.due(" + name + ", (Object) %s, " + call.group(3) + ");";
        if (call.group(1) == null) {
            return String.format(due, call.group(2));
        }
        String variable = call.group(1).split(" ")[1];
        return call.group(1) + call.group(2) + "; " + String.format(due, variable);
    }

    private static void compile(String program) throws IOException {
        String classes = System.getProperty("java.class.path").split(File.pathSeparator)[0];
        Path source = Path.of(classes, "ReadmeExample.java");
        Files.writeString(source, program);
        int code = ToolProvider.getSystemJavaCompiler()
                .run(null, null, null, "-cp", classes, "-d", classes, source.toString());
        Check.due("the example compiles", code, 0);
    }

    private static void namesAllCalls(String readme) {
        for (Method method : CairnCipher.class.getDeclaredMethods()) {
            if (Modifier.isPublic(method.getModifiers())) {
                Check.due("README.md names " + method.getName(), readme.contains("`" + method.getName() + "`"), true);
            }
        }
    }

    private static void namesAllFiles(String readme) {
        String[] files = new File("src/test/java").list();
        Check.due("there are files of the tests", files != null && files.length > 0, true);
        for (String file : files) {
            String name = file.replaceFirst("\\.java$", "");
            boolean isNamed = readme.contains("`src/test/java/" + file + "`") || readme.contains("`" + name + "`");
            Check.due("README.md names " + name, isNamed, true);
        }
        Matcher named = Pattern.compile("`src/test/java/(\\w+\\.java)`").matcher(readme);
        while (named.find()) {
            Check.due("there is " + named.group(1), new File("src/test/java", named.group(1)).isFile(), true);
        }
    }
}
