import java.io.IOException;
import java.nio.charset.StandardCharsets;
import java.nio.file.Files;
import java.nio.file.Path;
import java.util.Set;
import java.util.TreeSet;
import java.util.regex.Matcher;
import java.util.regex.Pattern;

/**
 * Makes the calls that README.md shows, in its order, and compares what they answer with what stands
 * behind them there. A line that shows no call with its answer is a fault, and so is a call of the face
 * that README.md does not show.
 */
public final class StepGraphReadme {
    private static final Path README = Path.of("README.md");
    private static final Pattern MADE = Pattern.compile("StepGraph graph = new StepGraph\\(\\);");
    private static final Pattern CALLED = Pattern.compile(
        "graph\\.(?<call>(?<name>\\w+)\\([^()]*\\)); +// (?<answer>throws \\w+|true|false|-?[0-9][0-9.]*)(: .*)?");

    private static final Set<String> shown = new TreeSet<>();
    private static StepGraphCalls graph = null;
    private static int calls = 0;
    private static int wrong = 0;

    public static void main(String[] args) throws IOException {
        StepGraphCalls.failIfStillRunning();
        boolean inJava = false;
        int number = 0;
        for (String line : Files.readAllLines(README, StandardCharsets.UTF_8)) {
            number++;
            if (line.startsWith("```")) {
                inJava = line.equals("```java");
            } else if (inJava && !line.isBlank()) {
                read(number, line);
            } else if (line.contains("graph.")) {
                due(number, false, "a call outside of the java blocks is not looked at: " + line);
            }
        }
        for (String name : StepGraphCalls.names()) {
            due(number, shown.contains(name), "README.md does not show " + name);
        }
        for (String answer : new String[] {"throws IllegalArgumentException", "throws IllegalStateException"}) {
            due(number, shown.contains(answer), "README.md does not show a call that " + answer);
        }
        System.out.println(wrong == 0 ? calls + " calls answer as README.md says" : wrong + " faults in README.md");
        if (wrong != 0) {
            System.exit(1);
        }
    }

    private static void read(int number, String line) {
        Matcher called = CALLED.matcher(line);
        if (MADE.matcher(line).matches()) {
            graph = new StepGraphCalls();
        } else if (graph == null || !called.matches()) {
            due(number, false, "no call with its answer: " + line);
        } else {
            compare(number, called);
        }
    }

    private static void compare(int number, Matcher called) {
        calls++;
        String want = called.group("answer");
        shown.add(called.group("name"));
        shown.add(want);
        Object got = graph.answer(called.group("call"));
        due(number, StepGraphCalls.isSame(got, want.replace(' ', '.')),
            called.group("call") + " answered " + got + ", README.md says " + want);
    }

    private static void due(int number, boolean holds, String what) {
        if (!holds) {
            wrong++;
            System.out.println("README.md, line " + number + ": " + what);
        }
    }
}
