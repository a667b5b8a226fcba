import java.io.IOException;
import java.nio.file.Files;
import java.nio.file.Path;
import java.util.ArrayList;
import java.util.List;
import java.util.Map;
import java.util.TreeMap;
import java.util.regex.Matcher;
import java.util.regex.Pattern;

/** The rules of LANGUAGE.md that show in the text of the program; FaceTest has those that reflection shows. */
public final class FormTest {
    private static final Path PROGRAM = Path.of("src/main/java/TapeRobotics.java");
    private static final String EXCEPTIONS = "IllegalStateException|IllegalArgumentException|IndexOutOfBoundsException"
            + "|ArithmeticException|UnsupportedOperationException|NoSuchElementException|RuntimeException";
    private static final String OF_THE_MACHINE = "ArrayIndexOutOfBoundsException|IndexOutOfBoundsException"
            + "|NullPointerException|ClassCastException|NegativeArraySizeException|ArrayStoreException|RuntimeException"
            + "|Exception|Throwable|Error";

    public static void main(String[] args) throws IOException {
        String text = Files.readString(PROGRAM);
        String code = withoutComments(text);
        rulesOfWords(code);
        throwsOnlyWhatIsListed(code);
        signsOfTheText(text);
        rulesOfMethods(bodies(code));
        Check.end();
    }

    private static String withoutComments(String text) {
        return text.replaceAll("(?s)/\\*.*?\\*/", "").replaceAll("//[^\n]*", "");
    }

    private static void absent(String rule, String code, String pattern) {
        Matcher found = Pattern.compile(pattern).matcher(code);
        Check.due(rule + ": " + pattern + (found.find() ? " found as " + found.group() : ""), found.reset().find() ? 1 : 0, 0);
    }

    private static void rulesOfWords(String code) {
        absent("rule 1", code, "\\b(package|protected)\\b");
        // The arrow of a switch is no lambda.
        absent("rule 2", code.replaceAll("\\b(case\\b[^;{}]*?|default\\s*)->", ""), "->|::");
        absent("rule 3", code, "\\b(Object|Map|Set|HashMap|HashSet|Optional|Stream|Character|Boolean)\\b");
        absent("rule 4", code, "\\w+Exact\\(|\\bimport (?!java\\.util\\.(ArrayList|List|Arrays|Iterator|NoSuchElementException);)");
        absent("rules 4 and 13", code, "\\b(System\\.(?!arraycopy)|Random|Thread|Runtime|java\\.(io|nio|net|time))");
        absent("rule 5", code, "\\bstatic\\s*\\{");
        absent("rule 6", code, "\\b(finally|synchronized|assert|getMessage|hashCode)\\b");
        absent("rule 7", code, "\\bcatch\\s*\\([^)]*\\b(" + OF_THE_MACHINE + ")\\b");
        absent("rule 10", code, "\"\\s*\\+|\\+\\s*\"");
    }

    private static void throwsOnlyWhatIsListed(String code) {
        Matcher thrown = Pattern.compile("\\bthrow\\b[^;]*;").matcher(code);
        Pattern listed = Pattern.compile("throw new (" + EXCEPTIONS + ")\\((\"[^\"]*\")?\\);");
        while (thrown.find()) {
            Check.due("rule 6: " + thrown.group(), listed.matcher(thrown.group()).matches() ? 1 : 0, 1);
        }
    }

    private static void signsOfTheText(String text) {
        long strange = text.chars().filter(sign -> sign < 1 || sign > 127).count();
        Check.due("rule 4: signs that are not 1 to 127", strange, 0);
    }

    /** What stands in each method, by its name; those of one name together. */
    private static Map<String, String> bodies(String code) {
        Map<String, String> bodies = new TreeMap<>();
        Matcher head = Pattern.compile("\n +(?:[\\w<>\\[\\]]+ )*(\\w+)\\([^)]*\\)[^;{}]*\\{").matcher(code);
        while (head.find()) {
            bodies.merge(head.group(1), code.substring(head.end(), endOfBlock(code, head.end())), String::concat);
        }
        return bodies;
    }

    private static int endOfBlock(String code, int begin) {
        int depth = 1;
        int end = begin;
        while (depth > 0 && end < code.length()) {
            depth += code.charAt(end) == '{' ? 1 : code.charAt(end) == '}' ? -1 : 0;
            end++;
        }
        return end;
    }

    private static void rulesOfMethods(Map<String, String> bodies) {
        Check.due("methods were found", bodies.size() > 25 ? 1 : 0, 1);
        for (Map.Entry<String, String> each : bodies.entrySet()) {
            String name = each.getKey();
            long lines = each.getValue().lines().count();
            int deepest = chainFrom(name, bodies, new ArrayList<>());
            Check.due("rule 11: lines of " + name, lines > 60 ? lines : 0, 0);
            Check.due("rule 11: calls that go deep from " + name, deepest > 8 ? deepest : 0, 0);
            if (Character.isUpperCase(name.charAt(0))) {
                absent("rule 6: constructor " + name, each.getValue(), "\\bthrow\\b");
            }
        }
    }

    /** How many of the program's methods stand open at once at the most; one that is open already is recursion. */
    private static int chainFrom(String name, Map<String, String> bodies, List<String> open) {
        if (open.contains(name) || !bodies.containsKey(name)) {
            return 0;
        }
        open.add(name);
        int deepest = 0;
        Matcher called = Pattern.compile("(\\w+)\\(").matcher(bodies.get(name));
        while (called.find()) {
            deepest = Math.max(deepest, chainFrom(called.group(1), bodies, open));
        }
        open.remove(name);
        return 1 + deepest;
    }
}
