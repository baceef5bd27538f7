import java.io.IOException;
import java.lang.reflect.Method;
import java.lang.reflect.Modifier;
import java.nio.file.Files;
import java.nio.file.Path;
import java.util.ArrayList;
import java.util.List;
import java.util.Set;
import java.util.TreeSet;
import java.util.regex.Matcher;
import java.util.regex.Pattern;

/** Writes a test, ReadmeTest, of the Java in README.md: each call that is shown there has the answer told behind it. */
public final class Readme {
    private static final Pattern MAKING =
            Pattern.compile("(VersionRing \\w+ = (new VersionRing\\(.*\\));) +// N = (\\d), R = (\\d), W = (\\d)");
    private static final Pattern CALL = Pattern.compile("(\\w+\\.(\\w+)\\(.*\\)); +// (true|false|-?\\d+)(: .+)?");
    private static final Pattern LOOP = Pattern.compile("for \\(.*\\) \\{|    \\w+\\.\\w+\\(.*\\);|\\}");
    private static final List<String> REFUSALS = List.of("token false", "remove false", "power false", "cut false",
            "put -1", "put -2", "put -3", "put -4", "get -1", "get -2", "get -3", "handOver -1", "handOver -2",
            "compare -1", "compare -2");

    private final List<String> test = new ArrayList<>();
    private final List<String> faults = new ArrayList<>();
    private final Set<String> shown = new TreeSet<>();

    public static void main(String[] args) throws IOException {
        Readme readme = new Readme();
        readme.readAll(Files.readAllLines(Path.of(args[0])));
        readme.checkThatAllIsShown();
        readme.faults.forEach(fault -> System.out.println(args[0] + ": " + fault));
        Files.write(Path.of(args[1]), readme.test);
        System.exit(readme.faults.isEmpty() ? 0 : 1);
    }

    private void readAll(List<String> lines) {
        test.add("public final class ReadmeTest {");
        test.add("public static void main(String[] args) {");
        test.add("Due due = new Due(\"ReadmeTest\");");
        boolean java = false;
        for (String line : lines) {
            if (line.startsWith("```")) {
                java = line.equals("```java");
            } else if (java && !line.isBlank()) {
                read(line);
            }
        }
        test.add("due.end();");
        test.add("}");
        test.add("}");
    }

    private void read(String line) {
        Matcher making = MAKING.matcher(line);
        Matcher call = CALL.matcher(line);
        if (making.matches()) {
            test.add(making.group(1));
            test.add("Readme.checkSizes(due, \"" + making.group(2) + "\", " + making.group(2) + ", "
                    + making.group(3) + ", " + making.group(4) + ", " + making.group(5) + ");");
        } else if (call.matches()) {
            shown.add(call.group(2));
            shown.add(call.group(2) + " " + call.group(3));
            test.add(question(call.group(1), call.group(3)));
        } else if (LOOP.matcher(line).matches()) {
            test.add(line);
        } else {
            faults.add("no answer can be read from: " + line);
        }
    }

    private static String question(String call, String answer) {
        return switch (answer) {
            case "true" -> "due.yes(\"" + call + "\", " + call + ");";
            case "false" -> "due.no(\"" + call + "\", " + call + ");";
            default -> "due.is(\"" + call + "\", " + answer + ", " + call + ");";
        };
    }

    private void checkThatAllIsShown() {
        for (Method method : VersionRing.class.getDeclaredMethods()) {
            if (Modifier.isPublic(method.getModifiers()) && !shown.contains(method.getName())) {
                faults.add("no call is shown of " + method.getName());
            }
        }
        for (String refusal : REFUSALS) {
            if (!shown.contains(refusal)) {
                faults.add("no refusal is shown of the kind " + refusal);
            }
        }
    }

    /** While nodes come to a new ring one by one, R and W tell how long gets and puts are refused. */
    static void checkSizes(Due due, String making, VersionRing ring, int n, int r, int w) {
        int refusedGets = 0;
        int refusedPuts = 0;
        for (int node = 0; node < 5; node++) {
            refusedGets += ring.get(0, 0, 0) == -3 ? 1 : 0;
            refusedPuts += ring.put(0, 0, 0, -1) == -4 ? 1 : 0;
            ring.token(node, node);
        }
        due.is(making + ": N", n, ring.targets(0, 0));
        due.is(making + ": R", r, refusedGets);
        due.is(making + ": W", w, refusedPuts);
    }
}
