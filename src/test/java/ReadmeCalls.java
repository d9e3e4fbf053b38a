import java.io.IOException;
import java.nio.file.Files;
import java.nio.file.Path;
import java.util.Arrays;
import java.util.List;
import java.util.Set;
import java.util.TreeSet;
import java.util.regex.Matcher;
import java.util.regex.Pattern;

/**
 * Prints the test ReadmeTest: the examples of a README.md, compiled as they stand there, each call held
 * against the answer in the comment behind it.
 */
public final class ReadmeCalls {
    private static final String NEW_OBJECT = "JobStates x = new JobStates();";
    private static final Pattern CALL = Pattern.compile(
            "(?:int (\\w+) = )?(x\\.(\\w+)\\([^;]*\\)); *// (NONE|true|false|-?\\d+)(?:: .+)?");

    private final Set<String> unseen = new TreeSet<>(Arrays.asList(
            "job", "needs", "runner", "lost", "trigger", "approve", "take", "beat", "end", "tick",
            "cancel", "again", "state", "about", "verdict", "has"));
    private final StringBuilder body = new StringBuilder();
    private boolean inExample = false;
    private boolean wrong = false;

    private ReadmeCalls() {
    }

    public static void main(String[] args) throws IOException {
        ReadmeCalls readme = new ReadmeCalls();
        readme.read(Files.readAllLines(Path.of(args[0])));
        if (readme.wrong) {
            System.exit(1);
        }
        System.out.print("public final class ReadmeTest {\n    public static void main(String[] args) {\n"
                + readme.body + "        Due.finish();\n    }\n}\n");
    }

    private void read(List<String> lines) {
        for (int i = 0; i < lines.size(); i++) {
            readLine(lines.get(i), i + 1);
        }
        if (inExample) {
            complain("the last example has no end");
        }
        if (!unseen.isEmpty()) {
            complain("no example shows " + unseen);
        }
    }

    private void readLine(String line, int number) {
        if (line.equals("```java")) {
            inExample = true;
            body.append("        {\n");
        } else if (line.startsWith("```")) {
            inExample = endExample(number);
        } else if (inExample && !line.isBlank()) {
            writeCall(line, number);
        }
    }

    private boolean endExample(int number) {
        if (!inExample) {
            complain("line " + number + ": an example begins with ```java");
        }
        body.append("        }\n");
        return false;
    }

    private void writeCall(String line, int number) {
        Matcher call = CALL.matcher(line);
        if (line.equals(NEW_OBJECT)) {
            body.append("        ").append(line).append('\n');
        } else if (call.matches()) {
            unseen.remove(call.group(3));
            write(call.group(1), call.group(2), call.group(4), number);
        } else {
            complain("line " + number + " is no call with its answer: " + line);
        }
    }

    private void write(String name, String call, String answer, int number) {
        String due = answer.equals("NONE") ? "JobStates.NONE" : answer;
        if (name != null) {
            body.append("        int ").append(name).append(" = ").append(call).append(";\n");
        }
        body.append("        Due.is(\"README.md, line ").append(number).append(": ").append(call).append("\", ")
                .append(name == null ? call : name).append(", ").append(due).append(");\n");
    }

    private void complain(String what) {
        wrong = true;
        System.err.println("README.md: " + what);
    }
}
