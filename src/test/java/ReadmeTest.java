import java.io.IOException;
import java.lang.reflect.Method;
import java.lang.reflect.Modifier;
import java.nio.file.Files;
import java.nio.file.Path;
import java.util.List;
import java.util.regex.Matcher;
import java.util.regex.Pattern;
import javax.tools.JavaCompiler;
import javax.tools.ToolProvider;

/** The calls that README.md shows, compiled and run from its own lines, give the answers that stand behind them. */
public final class ReadmeTest extends Checks {
    private static final String ANSWER = " *// (-?\\d+|NONE|true|false|\"[^\"]*\")(?:: .+)?";
    private static final Pattern CALL = Pattern.compile("(x\\.\\w+\\(.*\\));" + ANSWER);
    private static final Pattern KEPT = Pattern.compile("((?:int|boolean|String) (\\w+) = .+;)" + ANSWER);
    private static final Pattern THROWN = Pattern.compile("(x\\.\\w+\\(.*\\);) *// throws (\\w+): .+");
    private static final int NO_COMPILER = -1;

    public static void main(String[] args) throws Exception {
        List<String> lines = Files.readAllLines(Path.of("README.md"));
        String shown = "";
        boolean inside = false;
        for (int i = 0; i < lines.size(); i++) {
            String line = lines.get(i);
            if (line.startsWith("```")) {
                inside = line.equals("```java");
            } else if (inside) {
                shown += checked(line, "README.md, line " + (i + 1)) + "\n";
            }
        }
        everyMethodIsShown(shown);
        compile("final class ReadmeRun extends Checks { static void run() {\n" + shown + "} }\n");
        Class.forName("ReadmeRun").getDeclaredMethod("run").invoke(null);
        endWithCount();
    }

    /** The line with a check of the answer that it tells. */
    private static String checked(String line, String where) {
        Matcher call = CALL.matcher(line);
        if (call.matches()) return dueAnswer(where, call.group(1), call.group(2));
        Matcher kept = KEPT.matcher(line);
        if (kept.matches()) return kept.group(1) + dueAnswer(where, kept.group(2), kept.group(3));
        Matcher thrown = THROWN.matcher(line);
        if (thrown.matches()) return dueException(where, thrown.group(1), thrown.group(2));
        due(where + ", a comment that is no answer: " + line, truth(line.contains("//")), 0);
        return line;
    }

    private static String dueAnswer(String where, String got, String answer) {
        String want = answer.equals("NONE") ? "LoanTerms.NONE" : answer;
        return "due(\"" + where + "\", String.valueOf(" + got + "), String.valueOf(" + want + "));";
    }

    private static String dueException(String where, String call, String name) {
        return "try { " + call + " due(\"" + where + "\", \"no exception\", \"" + name + "\"); }"
                + " catch (RuntimeException e) { due(\"" + where + "\", e.getClass().getSimpleName(), \"" + name + "\"); }";
    }

    private static void everyMethodIsShown(String shown) {
        for (Method method : LoanTerms.class.getDeclaredMethods()) {
            if (Modifier.isPublic(method.getModifiers())) {
                due("README.md shows " + method.getName(), truth(shown.contains("x." + method.getName() + "(")), 1);
            }
        }
    }

    /** Beside this class, where it is found by its name. */
    private static void compile(String source) throws IOException {
        Path place = Path.of(System.getProperty("java.class.path"));
        Path file = place.resolve("ReadmeRun.java");
        Files.writeString(file, source);
        JavaCompiler compiler = ToolProvider.getSystemJavaCompiler();
        String[] options = {"--release", "17", "-cp", place.toString(), "-d", place.toString(), file.toString()};
        int code = compiler == null ? NO_COMPILER : compiler.run(null, null, null, options);
        due("exit code of javac for the lines of README.md", code, 0);
        if (code != 0) endWithCount();
    }
}
