import java.io.IOException;
import java.nio.file.Files;
import java.nio.file.Path;
import java.util.List;
import java.util.regex.Matcher;
import java.util.regex.Pattern;

/** Rules of LANGUAGE.md that can be seen from the text of the class. */
public final class LanguageTest {
    /** Rules 2, 4, 6, 13: patterns that no line may have. */
    private static final String[] FORBIDDEN = {"::", "\\bsynchronized\\b", "\\bassert\\b", "\\bfinally\\b", "\\btry \\(",
        "\\bprotected\\b", "^package\\b", "\\bhashCode\\b", "\\bgetMessage\\b", "\\w+Exact\\b", "\\bNaN\\b", "\\bRandom\\b",
        "\\bThread\\b", "\\bnative\\b", "\\bClass\\b", "\\bObject\\b", "\\bstatic \\{"};
    /** Rule 4: what of the library may be called. */
    private static final List<String> SYSTEM = List.of("arraycopy");
    private static final List<String> ARRAYS = List.of("copyOf", "copyOfRange", "fill");
    private static final List<String> IMPORTS = List.of("Arrays", "ArrayList", "List", "Iterator",
        "NoSuchElementException");
    /** Rule 6: what may be thrown. */
    private static final List<String> THROWN = List.of("IllegalStateException", "IllegalArgumentException",
        "IndexOutOfBoundsException", "ArithmeticException", "UnsupportedOperationException", "NoSuchElementException",
        "RuntimeException", "java.util.NoSuchElementException");
    private static final int MOST_LINES = 60;

    private LanguageTest() {
    }

    public static void main(String[] args) throws IOException {
        Check check = new Check();
        List<String> lines = Files.readAllLines(Path.of("src/main/java/ContractMachine.java"));
        for (int k = 0; k < lines.size(); k++) {
            String line = bare(lines.get(k));
            words(check, line, k + 1);
            library(check, line);
            thrown(check, line);
            statics(check, line);
        }
        methods(check, lines);
        check.finish("LanguageTest");
    }

    private static String bare(String line) {
        String text = line.strip();
        return text.startsWith("/*") || text.startsWith("*") || text.startsWith("//") ? "" : line;
    }

    private static void words(Check check, String line, int number) {
        for (String pattern : FORBIDDEN) {
            check.same("line " + number + " has " + pattern, Pattern.compile(pattern).matcher(line).find() ? 1 : 0, 0);
        }
        boolean isLambda = line.contains("->") && !line.matches("\\s*(case|default)\\b.*");
        check.same("line " + number + " has a lambda", isLambda ? 1 : 0, 0);
    }

    private static void library(Check check, String line) {
        if (line.startsWith("import ")) {
            String name = line.substring("import ".length(), line.length() - 1);
            boolean known = name.startsWith("java.util.") && IMPORTS.contains(name.substring("java.util.".length()));
            check.same(line, known ? 0 : 1, 0);
        }
        Matcher found = Pattern.compile("\\b(System|Arrays)\\.(\\w+)").matcher(line);
        while (found.find() && !line.startsWith("import ")) {
            List<String> known = found.group(1).equals("System") ? SYSTEM : ARRAYS;
            check.same(found.group(), known.contains(found.group(2)) ? 0 : 1, 0);
        }
    }

    private static void thrown(Check check, String line) {
        Matcher found = Pattern.compile("\\bthrow\\b(.*)").matcher(line);
        while (found.find()) {
            Matcher made = Pattern.compile(" new ([\\w.]+)\\((\"[^\"]*\")?\\);").matcher(found.group(1));
            check.same(line, made.matches() && THROWN.contains(made.group(1)) ? 0 : 1, 0);
        }
    }

    private static void statics(Check check, String line) {
        boolean isField = line.matches(".*\\bstatic\\b[^(={]*\\w\\s*[=;].*");
        check.same(line, isField && !line.contains(" final ") ? 1 : 0, 0);
    }

    private static void methods(Check check, List<String> lines) {
        int start = 0;
        for (int k = 0; k < lines.size(); k++) {
            String line = lines.get(k);
            if (line.matches("( {4}| {8})\\S.*\\) ?(throws .*)?\\{")) {
                start = k;
            }
            if (line.matches(" {4}( {4})?\\}")) {
                check.same("lines of a method to line " + (k + 1), k - start < MOST_LINES || line.equals("    }")
                    ? 0 : k - start, 0);
            }
        }
    }
}
