import java.io.File;
import java.io.IOException;
import java.net.URL;
import java.net.URLClassLoader;
import java.nio.file.Files;
import java.nio.file.Path;
import java.util.ArrayList;
import java.util.List;
import java.util.regex.Matcher;
import java.util.regex.Pattern;
import javax.tools.ToolProvider;

/**
 * Runs the example of README.md as it stands there. Where a line ends with a comment, the comment begins with the answer
 * that is due (what comes after a ':' explains it), or with 'throws' and the name of an exception.
 */
public final class ReadmeTest {
    private static final Path README = Path.of("README.md");
    private static final Pattern STATEMENT = Pattern.compile("(.*;)(?: +// ([^:]*)(?::.*)?)?");
    private static final Pattern VARIABLE = Pattern.compile("\\w+ (\\w+) = .*;");
    private static final String THROWS = "throws ";

    private ReadmeTest() {
    }

    public static void main(String[] args) throws IOException, ReflectiveOperationException {
        List<String> example = example();
        Check.due("README.md has an example", !example.isEmpty(), true);
        Path directory = temporary(Files.createTempDirectory("readme"));
        Path source = temporary(directory.resolve("ReadmeExample.java"));
        temporary(directory.resolve("ReadmeExample.class"));
        Files.writeString(source, program(example));
        String path = System.getProperty("java.class.path");
        int status = ToolProvider.getSystemJavaCompiler()
            .run(null, null, null, "-cp", path, "-d", directory.toString(), source.toString());
        Check.due("the compiler's status for the example of README.md", status, 0);
        if (status == 0) {
            runExample(directory, path);
        }
        Check.finish();
    }

    // Deleted at the end of the machine, since a wrong answer in the example ends it at once.
    private static Path temporary(Path path) {
        path.toFile().deleteOnExit();
        return path;
    }

    private static List<String> example() throws IOException {
        List<String> lines = new ArrayList<>();
        boolean inExample = false;
        for (String line : Files.readAllLines(README)) {
            if (line.startsWith("```")) {
                inExample = line.equals("```java");
            } else if (inExample && !line.isEmpty()) {
                lines.add(line);
            }
        }
        return lines;
    }

    private static String program(List<String> example) {
        StringBuilder text = new StringBuilder("public final class ReadmeExample {\n");
        text.append("public static void main(String[] args) {\n");
        for (String line : example) {
            text.append(checked(line)).append('\n');
        }
        return text.append("Check.finish();\n}\n}\n").toString();
    }

    /** The line as a statement that checks what the comment tells. */
    private static String checked(String line) {
        Matcher parts = STATEMENT.matcher(line);
        if (!parts.matches() || parts.group(2) == null) {
            return line;
        }
        String statement = parts.group(1);
        String call = statement.substring(0, statement.length() - 1);
        String told = parts.group(2).strip();
        String quoted = "\"README: " + statement + "\", ";
        if (told.startsWith(THROWS)) {
            return "Check.refused(" + quoted + told.substring(THROWS.length()) + ".class, () -> " + call + ");";
        }
        Matcher variable = VARIABLE.matcher(statement);
        if (variable.matches()) {
            return statement + " Check.due(" + quoted + variable.group(1) + ", " + told + ");";
        }
        return "Check.due(" + quoted + call + ", " + told + ");";
    }

    // One loader for all of it: a class of another loader could not see Check, which is not public.
    private static void runExample(Path directory, String path) throws IOException, ReflectiveOperationException {
        List<URL> places = new ArrayList<>();
        places.add(directory.toUri().toURL());
        for (String place : path.split(File.pathSeparator)) {
            places.add(Path.of(place).toUri().toURL());
        }
        ClassLoader platform = ClassLoader.getPlatformClassLoader();
        try (URLClassLoader loader = new URLClassLoader(places.toArray(new URL[0]), platform)) {
            loader.loadClass("ReadmeExample").getMethod("main", String[].class).invoke(null, (Object) new String[0]);
        }
    }
}
