import java.io.IOException;
import java.lang.reflect.InvocationTargetException;
import java.lang.reflect.Method;
import java.lang.reflect.Modifier;
import java.nio.file.Files;
import java.nio.file.Path;
import java.util.ArrayList;
import java.util.HashMap;
import java.util.List;
import java.util.Map;
import java.util.Set;
import java.util.TreeSet;
import java.util.regex.Matcher;
import java.util.regex.Pattern;
import java.util.stream.Collectors;
import java.util.stream.Stream;

/**
 * README.md as it stands: its calls are made, one behind the other, and have to answer or throw what stands
 * beside them; its command is the script that runs all tests, and its list names them all. A line of the
 * example that this test can't read is wrong too, so that nothing stands there unseen.
 */
public final class ReadmeTest {
    private static final Path TESTS = Path.of("src/test/java");
    private static final String SCRIPT = ".ci/run";
    private static final String CALL = "library\\.(\\w+)\\(([^()]*)\\)";
    private static final Pattern MADE = Pattern.compile("TapeRobotics library = new TapeRobotics\\(\\);");
    private static final Pattern ANSWERED = Pattern.compile("(?:int (\\w+) = )?" + CALL + "; +// (-?\\d+)(: .+)?");
    private static final Pattern REFUSED = Pattern.compile("\\| `" + CALL + "` \\| `(\\w+)` \\| .+ \\|");

    private final List<String> lines;
    private final Map<String, Integer> numbers = new HashMap<>();
    private final Set<String> shown = new TreeSet<>();
    private TapeRobotics library = null;

    private ReadmeTest(List<String> lines) {
        this.lines = lines;
    }

    public static void main(String[] args) throws IOException, ReflectiveOperationException {
        Check.sentence("README.md");
        ReadmeTest test = new ReadmeTest(Files.readAllLines(Path.of("README.md")));
        test.answers();
        test.refusals();
        test.showsEachCall();
        test.command();
        test.listOfTests();
        Check.end();
    }

    private static void truth(String what, boolean holds) {
        Check.due(what, holds ? 1 : 0, 1);
    }

    /** The lines of all blocks of a language, without those that are empty. */
    private List<String> blocks(String language) {
        List<String> found = new ArrayList<>();
        boolean inside = false;
        for (String line : lines) {
            if (line.startsWith("```")) {
                inside = line.equals("```" + language);
            } else if (inside && !line.isBlank()) {
                found.add(line);
            }
        }
        return found;
    }

    private void answers() throws ReflectiveOperationException {
        for (String line : blocks("java")) {
            Matcher answered = ANSWERED.matcher(line);
            if (MADE.matcher(line).matches() && library == null) {
                library = new TapeRobotics();
            } else if (answered.matches() && library != null) {
                answer(line, answered);
            } else if (!line.startsWith("// ")) {
                truth("the line can be read: " + line, false);
            }
        }
    }

    private void answer(String line, Matcher call) throws ReflectiveOperationException {
        shown.add(call.group(2));
        try {
            int got = ask(call.group(2), call.group(3));
            Check.due(line, got, Integer.parseInt(call.group(4)));
            if (call.group(1) != null) {
                truth("a new name: " + line, numbers.put(call.group(1), got) == null);
            }
        } catch (InvocationTargetException e) {
            truth(line + " threw " + e.getCause(), false);
        }
    }

    /** The rows of the table, behind all calls of the example. */
    private void refusals() throws ReflectiveOperationException {
        Set<String> kinds = new TreeSet<>();
        for (String line : lines) {
            Matcher refused = REFUSED.matcher(line);
            if (refused.matches()) {
                String got = thrownBy(refused.group(1), refused.group(2));
                truth(line + " threw " + got, got.equals(refused.group(3)));
                kinds.add(got);
            } else if (line.startsWith("| `")) {
                truth("the row can be read: " + line, false);
            }
        }
        truth("each of the three exceptions is shown", kinds.size() == 3);
    }

    private String thrownBy(String name, String arguments) throws ReflectiveOperationException {
        try {
            ask(name, arguments);
            return "nothing";
        } catch (InvocationTargetException e) {
            return e.getCause().getClass().getSimpleName();
        }
    }

    private int ask(String name, String arguments) throws ReflectiveOperationException {
        String[] words = arguments.isEmpty() ? new String[0] : arguments.split(", ");
        Class<?>[] types = new Class<?>[words.length];
        Object[] values = new Object[words.length];
        for (int i = 0; i < words.length; i++) {
            types[i] = int.class;
            values[i] = valueOf(words[i]);
        }
        return (int) TapeRobotics.class.getMethod(name, types).invoke(library, values);
    }

    private int valueOf(String word) throws ReflectiveOperationException {
        if (word.startsWith("TapeRobotics.")) {
            return TapeRobotics.class.getField(word.substring("TapeRobotics.".length())).getInt(null);
        }
        return numbers.containsKey(word) ? numbers.get(word) : Integer.parseInt(word);
    }

    private void showsEachCall() {
        for (Method method : TapeRobotics.class.getDeclaredMethods()) {
            if (Modifier.isPublic(method.getModifiers())) {
                truth(method.getName() + " is shown", shown.contains(method.getName()));
            }
        }
    }

    private void command() throws IOException {
        List<String> commands = blocks("sh");
        String last = commands.isEmpty() ? "none" : commands.get(commands.size() - 1);
        truth("the last command is " + last + ", not bash " + SCRIPT, last.equals("bash " + SCRIPT));
        truth(SCRIPT + " can be run", Files.isExecutable(Path.of(SCRIPT)));
        String script = Files.readString(Path.of(SCRIPT));
        truth(SCRIPT + " goes through the project's tests", script.contains("in " + TESTS + "/*Test.java;"));
        truth(SCRIPT + " goes through the shared tests", script.contains("shared=../shared/tests\n"));
    }

    /** What the script runs is told by a file's name and folder, so a main method elsewhere would never run. */
    private void listOfTests() throws IOException {
        Set<String> listed = new TreeSet<>();
        Matcher name = Pattern.compile("`(\\w+Test)`").matcher(String.join("\n", lines));
        while (name.find()) {
            listed.add(name.group(1) + ".java");
        }
        Set<String> run = new TreeSet<>();
        for (Path file : programsBelow(Path.of("src"))) {
            if (Files.readString(file).contains("public static void main(")) {
                run.add(TESTS.relativize(file).toString());
            }
        }
        truth("listed are " + listed + ", there are " + run, listed.equals(run));
    }

    private static List<Path> programsBelow(Path folder) throws IOException {
        try (Stream<Path> all = Files.walk(folder)) {
            return all.filter(file -> file.toString().endsWith(".java")).collect(Collectors.toList());
        }
    }
}
