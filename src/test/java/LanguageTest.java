import java.io.IOException;
import java.nio.file.Files;
import java.nio.file.Path;
import java.util.Set;
import java.util.TreeSet;
import java.util.regex.Matcher;
import java.util.regex.Pattern;

/** What a look at the text of MessageBroker.java can tell of LANGUAGE.md; it is run from the project's folder. */
public final class LanguageTest {
    private static final String[] NEVER = {
        "\\bimport\\b", "\\bpackage\\b", "->", "::", "\\btry\\b", "\\bcatch\\b", "\\bfinally\\b", "\\bassert\\b",
        "\\bsynchronized\\b", "\\bSystem\\b", "\\bstatic \\{", "\\bwhile \\(true\\)", "\\bnew int\\[\\]", "[^\\x00-\\x7f]",
        "\\.(equals|hashCode|toString)\\(", "\\w+Exact\\(", "\\bprotected\\b", "\\b(double|float|long)\\b",
    };
    private static final Set<String> LIBRARY = Set.of("Math", "IllegalArgumentException", "IllegalStateException",
            "IndexOutOfBoundsException");
    private static final int LONGEST_METHOD = 60;
    private static final int MOST_PARAMETERS = 7;

    public static void main(String[] args) throws IOException {
        Check check = new Check();
        check.about("LANGUAGE.md");
        String text = Files.readString(Path.of("src/main/java/MessageBroker.java"));
        String code = text.replaceAll("(?s)/\\*.*?\\*/", "").replaceAll("//[^\n]*", "");
        String bare = code.replaceAll("\"[^\"]*\"", "\"\"");
        for (String never : NEVER) {
            Matcher found = Pattern.compile(never).matcher(bare);
            check.text("without " + never, "", found.find() ? found.group() : "");
        }
        check.text("names of the library", "[]", foreignNames(bare).toString());
        checkMethods(check, text);
        check.end();
    }

    private static Set<String> foreignNames(String code) {
        Set<String> own = new TreeSet<>(LIBRARY);
        Matcher classes = Pattern.compile("\\bclass (\\w+)").matcher(code);
        while (classes.find()) {
            own.add(classes.group(1));
        }
        Set<String> foreign = new TreeSet<>();
        Matcher names = Pattern.compile("\\b[A-Z]\\w*[a-z]\\w*\\b").matcher(code);
        while (names.find()) {
            if (!own.contains(names.group())) {
                foreign.add(names.group());
            }
        }
        return foreign;
    }

    private static void checkMethods(Check check, String text) {
        Matcher heads = Pattern.compile("(?m)^( {4}| {8})([\\w\\[\\]]+ )*(\\w+)\\(([^()]*)\\)[^;{]*\\{$").matcher(text);
        int methods = 0;
        while (heads.find()) {
            methods++;
            String name = heads.group(3);
            int end = text.indexOf("\n" + heads.group(1) + "}\n", heads.end());
            long lines = text.substring(heads.start(), end).lines().count() + 1;
            check.yes(name + " is short, of " + lines + " lines", lines <= LONGEST_METHOD);
            int parameters = heads.group(4).isEmpty() ? 0 : heads.group(4).split(",").length;
            check.yes(name + " takes " + parameters, parameters <= MOST_PARAMETERS);
        }
        check.yes("methods were found: " + methods, methods > 150);
    }
}
