import java.io.ByteArrayOutputStream;
import java.io.File;
import java.io.IOException;
import java.io.PrintStream;
import java.net.URL;
import java.net.URLClassLoader;
import java.nio.file.Files;
import java.nio.file.Path;
import java.util.TreeSet;
import java.util.regex.Matcher;
import java.util.regex.Pattern;
import java.util.stream.Stream;
import javax.tools.ToolProvider;

/** The programs in README.md print what they say, and its tables name each call; it is run from the project's folder. */
public final class ReadmeTest {
    private static final String OUTSIDE_PROGRAMS = "(?s)```java\n.*?```";

    public static void main(String[] args) throws IOException, ReflectiveOperationException {
        Check check = new Check();
        check.about("README.md");
        String text = Files.readString(Path.of("README.md"));
        Matcher programs = Pattern.compile("(?s)```java\n(.*?class (\\w+).*?)```").matcher(text);
        int found = 0;
        while (programs.find()) {
            found++;
            check.text(programs.group(2), told(programs.group(1)), printed(programs.group(2), programs.group(1)));
        }
        check.yes("programs were found", found > 0);
        TreeSet<String> unnamed = new TreeSet<>();
        Stream.of(MessageBroker.class.getMethods()).filter(method -> method.getDeclaringClass() == MessageBroker.class)
                .map(method -> method.getName() + "(").forEach(unnamed::add);
        String tables = text.replaceAll(OUTSIDE_PROGRAMS, "");
        unnamed.removeIf(name -> tables.contains("`" + name));
        check.text("calls without a word", "[]", unnamed.toString());
        check.end();
    }

    private static String told(String program) {
        StringBuilder lines = new StringBuilder();
        Matcher told = Pattern.compile("// prints (.*)").matcher(program);
        while (told.find()) {
            lines.append(told.group(1)).append('\n');
        }
        return lines.toString();
    }

    private static String printed(String name, String program) throws IOException, ReflectiveOperationException {
        Path folder = Files.createTempDirectory("readme");
        Path file = Files.writeString(folder.resolve(name + ".java"), program);
        String classPath = System.getProperty("java.class.path");
        int failed = ToolProvider.getSystemJavaCompiler().run(null, null, null, "-cp", classPath, "-d",
                folder.toString(), file.toString());
        String lines = failed == 0 ? run(name, folder) : "it does not compile";
        for (File left : folder.toFile().listFiles()) {
            Files.delete(left.toPath());
        }
        Files.delete(folder);
        return lines;
    }

    private static String run(String name, Path folder) throws IOException, ReflectiveOperationException {
        PrintStream before = System.out;
        ByteArrayOutputStream lines = new ByteArrayOutputStream();
        try (URLClassLoader loader = new URLClassLoader(new URL[] {folder.toUri().toURL()})) {
            System.setOut(new PrintStream(lines));
            loader.loadClass(name).getMethod("main", String[].class).invoke(null, (Object) new String[0]);
        } finally {
            System.setOut(before);
        }
        return lines.toString().replace(System.lineSeparator(), "\n");
    }
}
