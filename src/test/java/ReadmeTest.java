import java.io.IOException;
import java.lang.reflect.Method;
import java.lang.reflect.Modifier;
import java.nio.file.Files;
import java.nio.file.Path;
import java.util.Set;
import java.util.TreeSet;
import java.util.regex.Matcher;
import java.util.regex.Pattern;

/** README.md's example: each call answers what its comment says, and each method of the face is in it. */
public final class ReadmeTest {
    private static final Pattern MADE = Pattern.compile("WedgePlanes rock = new WedgePlanes\\((\\d+), (\\d+), (\\d+)\\);");
    private static final Pattern CALL = Pattern.compile("rock\\.((\\w+)\\(.*\\)); +// (.*)");

    private final Set<String> used = new TreeSet<>();
    private Run run = null;

    public static void main(String[] args) throws IOException {
        String text = Files.readString(Path.of("README.md"));
        Run.sentence("README.md says how to use the class");
        new ReadmeTest().follow(example(text));
        Run.sentence("README.md says .. how to run its tests");
        if (!text.contains("```sh\n.ci/run\n```")) {
            Run.fault("it does not tell of .ci/run");
        }
        Run.end("README.md");
    }

    private static String example(String text) {
        int from = text.indexOf("```java\n");
        int to = text.indexOf("\n```\n", from + 1);
        return from < 0 || to < 0 ? "" : text.substring(from + "```java\n".length(), to);
    }

    private void follow(String example) {
        for (String line : example.split("\n")) {
            Matcher made = MADE.matcher(line);
            Matcher call = CALL.matcher(line);
            if (made.matches()) {
                run = Run.on(Integer.parseInt(made.group(1)), Integer.parseInt(made.group(2)), Integer.parseInt(made.group(3)));
            } else if (run != null && call.matches()) {
                makeCall(call.group(1), call.group(2), call.group(3));
            } else {
                Run.fault("a line of the example is no call with an answer: " + line);
            }
        }
        for (Method m : WedgePlanes.class.getDeclaredMethods()) {
            if (Modifier.isPublic(m.getModifiers()) && !used.contains(m.getName())) {
                Run.fault("the example has no call of " + m.getName());
            }
        }
    }

    /** The comment is the answer, and words behind a colon; pull answers nothing, so it has words alone. */
    private void makeCall(String call, String name, String comment) {
        used.add(name);
        if (name.equals("pull")) {
            run.first(call);
        } else {
            run.due(call, comment.split(":")[0].replace("throws ", "throws."));
        }
    }
}
