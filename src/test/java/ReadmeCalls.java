import java.io.IOException;
import java.lang.reflect.Method;
import java.lang.reflect.Modifier;
import java.nio.file.Files;
import java.nio.file.Path;
import java.util.Set;
import java.util.TreeSet;
import java.util.regex.Matcher;
import java.util.regex.Pattern;

/**
 * Writes the test ReadmeTest from the Java that README.md shows, so that no answer there can differ from the class's.
 *
 * A comment there must begin with the answer of its call, and only calls that answer nothing may be without one:
 * otherwise an answer could stand there that no test looks at.
 */
public final class ReadmeCalls {
    private static final Pattern SILENT = Pattern.compile(
        "(?:ClosureFlows \\w+ = new ClosureFlows\\(\\)|\\w+\\.(start|clear)\\(\\));");
    private static final Pattern ANSWERED = Pattern.compile(
        "(?:int (\\w+) = )?(\\w+\\.(\\w+)\\([^;\"]*\\)); *// (-?\\d+|true|false)(?:: .*)?");

    private final StringBuilder test = new StringBuilder();
    private final Set<String> shown = new TreeSet<>();
    private boolean wrong;

    private ReadmeCalls() {
    }

    public static void main(String[] args) throws IOException {
        ReadmeCalls calls = new ReadmeCalls();
        calls.read(Path.of(args[0]));
        calls.wantAllMethods();
        if (calls.wrong) {
            System.exit(1);
        }
        System.out.println("final class ReadmeTest {");
        System.out.println("    public static void main(String[] args) {");
        System.out.println("        Due due = new Due(\"ReadmeTest\");");
        System.out.print(calls.test);
        System.out.println("        due.end();");
        System.out.println("    }");
        System.out.println("}");
    }

    private void read(Path readme) throws IOException {
        boolean inJava = false;
        for (String line : Files.readAllLines(readme)) {
            if (line.startsWith("```")) {
                inJava = line.equals("```java");
            } else if (inJava && !line.isEmpty()) {
                translate(line);
            }
        }
    }

    private void translate(String line) {
        Matcher silent = SILENT.matcher(line);
        Matcher answered = ANSWERED.matcher(line);
        if (silent.matches()) {
            show(silent.group(1));
            write(line);
        } else if (answered.matches()) {
            show(answered.group(3));
            String call = answered.group(2);
            String name = answered.group(1);
            if (name != null) {
                write("int " + name + " = " + call + ";");
            }
            write("due.is(\"" + call + "\", " + (name == null ? call : name) + ", " + answered.group(4) + ");");
        } else {
            fault("this line is not a call with its answer: " + line);
        }
    }

    private void show(String method) {
        if (method != null) {
            shown.add(method);
        }
    }

    private void write(String statement) {
        test.append("        ").append(statement).append(System.lineSeparator());
    }

    private void wantAllMethods() {
        for (Method method : ClosureFlows.class.getDeclaredMethods()) {
            if (Modifier.isPublic(method.getModifiers()) && !shown.contains(method.getName())) {
                fault("no call of this method is shown: " + method.getName());
            }
        }
    }

    private void fault(String words) {
        wrong = true;
        System.err.println("README.md: " + words);
    }
}
