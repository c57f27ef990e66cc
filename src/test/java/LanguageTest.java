import java.io.IOException;
import java.nio.file.Files;
import java.nio.file.Path;
import java.util.List;
import java.util.regex.Matcher;
import java.util.regex.Pattern;

/** Rules of LANGUAGE.md that can be seen from the text of the class; its path is the argument. */
public final class LanguageTest {
    private static final String[] FORBIDDEN = {"->", "::", "synchronized", "assert", "finally", "try", "catch",
        "instanceof", "native", "volatile", "transient", "package", "protected", "var", "record", "Object", "extends",
        "implements", "hashCode", "toString", "getMessage", "System.out", "System.nanoTime", "Random", "Thread",
        "Exact", "String", "NaN", "lambda", "Long.", "Integer.", "double", "float"};
    private static final int MOST_LINES = 60;

    private LanguageTest() {
    }

    public static void main(String[] args) throws IOException {
        Check check = new Check();
        List<String> lines = Files.readAllLines(Path.of(args[0]));
        words(check, lines);
        library(check, lines);
        statics(check, lines);
        methods(check, lines);
        check.finish("LanguageTest");
    }

    private static String bare(String line) {
        String text = line.strip();
        return text.startsWith("/*") || text.startsWith("*") || text.startsWith("//") ? "" : line;
    }

    private static void words(Check check, List<String> lines) {
        for (int k = 0; k < lines.size(); k++) {
            for (String word : FORBIDDEN) {
                String sought = word.matches("\\w+") ? "\\b" + word + "\\b" : Pattern.quote(word);
                if (Pattern.compile(sought).matcher(bare(lines.get(k))).find()) {
                    check.complain("line " + (k + 1) + " has " + word);
                }
            }
            check.same("line " + (k + 1) + " is short", lines.get(k).length() <= 120 ? 0 : 1, 0);
        }
    }

    private static void library(Check check, List<String> lines) {
        Pattern call = Pattern.compile("\\b(System|Arrays|Math)\\.(\\w+)");
        for (String line : lines) {
            if (line.startsWith("import ") && !line.equals("import java.util.Arrays;")
                    && !line.equals("import java.util.NoSuchElementException;")) {
                check.complain(line);
            }
            Matcher found = call.matcher(bare(line));
            while (found.find()) {
                boolean known = List.of("arraycopy", "copyOf", "fill", "min", "max").contains(found.group(2));
                check.same(found.group(), known ? 0 : 1, 0);
            }
        }
    }

    private static void statics(Check check, List<String> lines) {
        for (String line : lines) {
            boolean isField = line.contains(" static ") && !line.contains("(") && !line.contains(" class ");
            check.same(line, isField && !line.contains(" final ") ? 1 : 0, 0);
            check.same(line, line.strip().equals("static {") ? 1 : 0, 0);
        }
    }

    private static void methods(Check check, List<String> lines) {
        int start = 0;
        for (int k = 0; k < lines.size(); k++) {
            String line = lines.get(k);
            if (line.matches("( {4}| {8})\\S.*\\) ?(throws .*)?\\{")) {
                start = k;
            }
            if (line.matches(" {4}( {4})?\\}")) {
                check.same("lines of a method to line " + (k + 1), k - start < MOST_LINES || line.equals("    }")
                    ? 0 : k - start, 0);
            }
        }
    }
}
