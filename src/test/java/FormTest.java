import java.io.IOException;
import java.nio.file.Files;
import java.nio.file.Path;
import java.util.List;
import java.util.regex.Matcher;
import java.util.regex.Pattern;

/** The rules of LANGUAGE.md that show in the text of the program; FaceTest has those that reflection shows. */
public final class FormTest {
    private static final Path PROGRAM = Path.of("src/main/java/TapeRobotics.java");
    private static final String EXCEPTIONS = "IllegalStateException|IllegalArgumentException|IndexOutOfBoundsException"
            + "|ArithmeticException|UnsupportedOperationException|NoSuchElementException|RuntimeException";
    private static final String OF_THE_MACHINE = "ArrayIndexOutOfBoundsException|IndexOutOfBoundsException"
            + "|NullPointerException|ClassCastException|NegativeArraySizeException|ArrayStoreException|RuntimeException"
            + "|Exception|Throwable|Error";

    public static void main(String[] args) throws IOException {
        List<String> lines = Files.readAllLines(PROGRAM);
        String code = withoutComments(String.join("\n", lines));
        rulesOfWords(code);
        throwsOnlyWhatIsListed(code);
        signsOfTheText(String.join("\n", lines));
        shortMethods(lines);
        Check.end();
    }

    private static String withoutComments(String text) {
        return text.replaceAll("(?s)/\\*.*?\\*/", "").replaceAll("//[^\n]*", "");
    }

    private static void absent(String rule, String code, String pattern) {
        Matcher found = Pattern.compile(pattern).matcher(code);
        Check.due(rule + ": " + pattern + (found.find() ? " found as " + found.group() : ""), found.reset().find() ? 1 : 0, 0);
    }

    private static void rulesOfWords(String code) {
        absent("rule 1", code, "\\b(package|protected)\\b");
        absent("rules 2 and 3", code, "->|::");
        absent("rule 3", code, "\\b(Object|Map|Set|HashMap|HashSet|Optional|Stream|Character|Boolean)\\b");
        absent("rule 4", code, "\\w+Exact\\(|\\bimport (?!java\\.util\\.(ArrayList|List|Arrays|Iterator|NoSuchElementException);)");
        absent("rules 4 and 13", code, "\\b(System\\.(?!arraycopy)|Random|Thread|Runtime|java\\.(io|nio|net|time))");
        absent("rule 5", code, "\\bstatic\\s*\\{");
        absent("rule 6", code, "\\b(finally|synchronized|assert|getMessage|hashCode)\\b");
        absent("rule 7", code, "\\bcatch\\s*\\([^)]*\\b(" + OF_THE_MACHINE + ")\\b");
    }

    private static void throwsOnlyWhatIsListed(String code) {
        Matcher thrown = Pattern.compile("\\bthrow\\b[^;]*;").matcher(code);
        Pattern listed = Pattern.compile("throw new (" + EXCEPTIONS + ")\\((\"[^\"]*\")?\\);");
        while (thrown.find()) {
            Check.due("rule 6: " + thrown.group(), listed.matcher(thrown.group()).matches() ? 1 : 0, 1);
        }
    }

    private static void signsOfTheText(String text) {
        long strange = text.chars().filter(sign -> sign < 1 || sign > 127).count();
        Check.due("rule 4: signs that are not 1 to 127", strange, 0);
    }

    /** A method begins at a line that ends with "{" behind ")" or a throws clause, and ends at its own depth. */
    private static void shortMethods(List<String> lines) {
        Pattern head = Pattern.compile("( +)(public|private) [^=;]*\\(.*|( +)throws [^;]*\\{");
        for (int first = 0; first < lines.size(); first++) {
            if (head.matcher(lines.get(first)).matches() && lines.get(first).endsWith("{")) {
                int depth = 0;
                int last = first;
                do {
                    depth += count(lines.get(last), '{') - count(lines.get(last), '}');
                    last++;
                } while (depth > 0 && last < lines.size());
                Check.due("rule 11: lines behind " + lines.get(first).strip(), last - first > 60 ? last - first : 0, 0);
            }
        }
    }

    private static int count(String line, char sign) {
        return (int) line.chars().filter(each -> each == sign).count();
    }
}
