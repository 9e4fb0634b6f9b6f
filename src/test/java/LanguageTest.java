import java.io.IOException;
import java.nio.file.Files;
import java.nio.file.Path;
import java.util.Set;
import java.util.TreeSet;
import java.util.regex.Matcher;
import java.util.regex.Pattern;

/** What a look at the text of MessageBroker.java can tell of LANGUAGE.md; it is run from the project's folder. */
public final class LanguageTest {
    private static final String[] NEVER = {
        "(?m)^package\\b", "::", "(?m)^(?!\\s*(case|default)\\b).*->", "\\bfinally\\b", "\\bassert\\b",
        "\\bsynchronized\\b", "\\bprotected\\b", "\\bstatic \\{", "\\w+Exact\\(", "\\.(hashCode|getMessage)\\(",
        "\\bSystem\\.(?!arraycopy\\b)", "\"\\s*\\+[^+]", "[^+]\\+\\s*\"", "\\bextends \\w*(Exception|Error)\\b",
    };
    private static final Set<String> LIBRARY = Set.of("String", "StringBuilder", "Integer", "Long", "Math", "ArrayList",
            "List", "Iterator", "Iterable", "Comparable", "System", "Arrays", "Override", "IllegalStateException",
            "IllegalArgumentException", "IndexOutOfBoundsException", "ArithmeticException",
            "UnsupportedOperationException", "NoSuchElementException", "RuntimeException");
    /** The rules say some sixty. */
    private static final int LONGEST_METHOD = 66;
    private static final int MOST_PARAMETERS = 7;

    public static void main(String[] args) throws IOException {
        Check check = new Check();
        check.about("LANGUAGE.md");
        String text = Files.readString(Path.of("src/main/java/MessageBroker.java"));
        String code = text.replaceAll("(?s)/\\*.*?\\*/", "").replaceAll("//[^\n]*", "");
        String bare = code.replaceAll("\"[^\"\n]*\"", "\"\"");
        for (String never : NEVER) {
            Matcher found = Pattern.compile(never).matcher(bare);
            check.text("without " + never, "", found.find() ? found.group() : "");
        }
        check.text("without signs above 127", "", code.replaceAll("[\\x00-\\x7f]", ""));
        check.text("imports", "[]", foreignImports(bare).toString());
        check.text("names of the library", "[]", foreignNames(bare).toString());
        checkMethods(check, text);
        check.end();
    }

    private static Set<String> foreignImports(String code) {
        Set<String> foreign = new TreeSet<>();
        Matcher imports = Pattern.compile("(?m)^import ([^;]*);").matcher(code);
        while (imports.find()) {
            String name = imports.group(1).replace("java.util.", "");
            if (!name.equals("*") && !LIBRARY.contains(name)) {
                foreign.add(imports.group(1));
            }
        }
        return foreign;
    }

    private static Set<String> foreignNames(String code) {
        Set<String> known = new TreeSet<>(LIBRARY);
        Matcher classes = Pattern.compile("\\b(class|record|enum|interface) (\\w+)").matcher(code);
        while (classes.find()) {
            known.add(classes.group(2));
        }
        Set<String> foreign = new TreeSet<>();
        Matcher names = Pattern.compile("(?<!\\.)\\b[A-Z]\\w*[a-z]\\w*\\b(?=\\.| \\w+\\s*[,;=:()]|\\[|<|\\()").matcher(code);
        while (names.find()) {
            if (!known.contains(names.group())) {
                foreign.add(names.group());
            }
        }
        return foreign;
    }

    private static void checkMethods(Check check, String text) {
        Matcher heads = Pattern.compile("(?m)^( {4}| {8})([\\w\\[\\]<>]+ )*(\\w+)\\(([^()]*)\\)[^;{]*\\{$").matcher(text);
        while (heads.find()) {
            String name = heads.group(3);
            int end = text.indexOf("\n" + heads.group(1) + "}\n", heads.end());
            long lines = end < 0 ? 0 : text.substring(heads.start(), end).lines().count() + 1;
            check.yes(name + " is short, of " + lines + " lines", lines <= LONGEST_METHOD);
            int parameters = heads.group(4).isBlank() ? 0 : heads.group(4).split(",").length;
            check.yes(name + " takes " + parameters, parameters <= MOST_PARAMETERS);
        }
    }
}
