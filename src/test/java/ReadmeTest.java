import java.io.IOException;
import java.net.URISyntaxException;
import java.nio.charset.StandardCharsets;
import java.nio.file.Files;
import java.nio.file.Path;
import java.util.ArrayList;
import java.util.List;
import java.util.TreeSet;
import java.util.regex.Matcher;
import java.util.regex.Pattern;
import javax.tools.JavaCompiler;
import javax.tools.ToolProvider;

/**
 * The examples of README.md: each is compiled as it stands there, and each call has to answer what
 * the comment behind it says.
 */
public final class ReadmeTest {
    private static final Path README = Path.of("README.md");
    private static final String PROGRAM = "ReadmeExamples";
    private static final Pattern CALL = Pattern.compile("\\bx\\.(\\w+)\\(");
    // What stands before the colon is the answer, a number or a term over the example's own names.
    private static final Pattern CALL_WITH_ANSWER =
        Pattern.compile("\\s*(x\\.(\\w+)\\([^;]*\\));\\s*// ([-0-9][-+*0-9 a-z]*)(: .+)?");
    private static final Pattern CLEAR = Pattern.compile("\\s*x\\.clear\\(\\);");
    private static final List<String> REFUSALS = List.of("feed -1", "end -1", "read -1", "read -2",
        "write -1", "write -2", "at -1");
    private static final List<String> METHODS = List.of("feed", "end", "read", "value", "write", "size",
        "at", "clear");

    private static final TreeSet<String> shown = new TreeSet<>();
    private static int wrong = 0;

    public static void main(String[] args) throws Exception {
        List<List<String>> examples = examplesOf(Files.readAllLines(README, StandardCharsets.UTF_8));
        String source = programOf(examples);
        isThere(METHODS);
        isThere(REFUSALS);
        if (wrong != 0) {
            System.exit(1);
        }
        Check check = new Check();
        compiled(source).getDeclaredMethod("run", Check.class).invoke(null, check);
        check.finish();
    }

    private static void tell(String fault) {
        wrong++;
        System.out.println("README.md: " + fault);
    }

    private static void isThere(List<String> due) {
        for (String one : due) {
            if (!shown.contains(one)) {
                tell("no example shows " + one);
            }
        }
    }

    private static List<List<String>> examplesOf(List<String> lines) {
        List<List<String>> examples = new ArrayList<>();
        boolean inside = false;
        for (String line : lines) {
            if (line.equals("```java")) {
                inside = true;
                examples.add(new ArrayList<>());
            } else if (line.startsWith("```")) {
                inside = false;
            } else if (inside) {
                examples.get(examples.size() - 1).add(line);
            } else if (CALL.matcher(line).find()) {
                tell("a call outside the examples: " + line);
            }
        }
        return examples;
    }

    private static String programOf(List<List<String>> examples) {
        StringBuilder source = new StringBuilder("final class " + PROGRAM + " {\n");
        StringBuilder run = new StringBuilder("static void run(Check check) {\n");
        for (int i = 0; i < examples.size(); i++) {
            source.append("private static void example").append(i).append("(Check check) {\n");
            for (String line : examples.get(i)) {
                source.append(checked(line)).append('\n');
            }
            source.append("}\n");
            run.append("example").append(i).append("(check);\n");
        }
        return source.append(run).append("}\n}\n").toString();
    }

    /** The line of an example, with a call that tells its answer turned into a test of that answer. */
    private static String checked(String line) {
        Matcher call = CALL_WITH_ANSWER.matcher(line);
        if (call.matches()) {
            String answer = call.group(3).trim();
            shown.add(call.group(2));
            shown.add(call.group(2) + " " + answer);
            String due = answer.matches("-?[0-9]+") ? answer + "L" : answer;
            return "check.due(\"README.md: " + call.group(1) + "\", " + call.group(1) + ", " + due + ");";
        }
        if (CLEAR.matcher(line).matches()) {
            shown.add("clear");
        } else if (CALL.matcher(line).find()) {
            tell("a call whose answer is not told: " + line);
        }
        return line;
    }

    // Beside Check, so that the examples may use it: it is not public.
    private static Class<?> compiled(String source) throws IOException, ReflectiveOperationException,
            URISyntaxException {
        Path folder = Path.of(Check.class.getProtectionDomain().getCodeSource().getLocation().toURI());
        Path file = folder.resolve(PROGRAM + ".java");
        Files.writeString(file, source, StandardCharsets.UTF_8);
        JavaCompiler javac = ToolProvider.getSystemJavaCompiler();
        int exit = javac.run(null, null, null, "--release", "17", "-encoding", "UTF-8",
            "-cp", folder.toString(), "-d", folder.toString(), file.toString());
        if (exit != 0) {
            System.out.println("the examples of README.md do not compile");
            System.exit(1);
        }
        return Class.forName(PROGRAM);
    }
}
