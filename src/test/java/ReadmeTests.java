import java.io.IOException;
import java.io.StringWriter;
import java.lang.reflect.InvocationTargetException;
import java.net.URI;
import java.net.URL;
import java.net.URLClassLoader;
import java.nio.file.Files;
import java.nio.file.Path;
import java.util.List;
import java.util.regex.Matcher;
import java.util.regex.Pattern;
import java.util.stream.Stream;
import javax.tools.JavaCompiler;
import javax.tools.JavaFileObject;
import javax.tools.SimpleJavaFileObject;
import javax.tools.ToolProvider;

/** That the example of README.md can be compiled, and answers what its comments say. */
final class ReadmeTests {
    private static final Path README = Path.of("README.md");
    /** A call, perhaps with a variable that keeps its answer, and a comment that begins with the answer. */
    private static final Pattern ANSWERED = Pattern.compile("( *)(int (\\w+) = )?(.*);\\s+// (-?\\d+)\\b.*");

    private ReadmeTests() {
    }

    static void tell(Suite suite) {
        suite.test("README: the example answers as it says", ReadmeTests::runExample);
        suite.test("README: it names each file of tests", ReadmeTests::namesEachFile);
    }

    private static void runExample() {
        StringBuilder body = new StringBuilder();
        int answers = 0;
        for (String line : example().split("\n")) {
            Matcher matcher = ANSWERED.matcher(line);
            boolean answered = matcher.matches();
            body.append(answered ? checked(matcher) : line).append('\n');
            answers += answered ? 1 : 0;
        }
        if (answers == 0) {
            throw new AssertionError("the example says no answer");
        }
        run("public final class Example {\n"
                + "static void due(long due, long got, String call) {\n"
                + "if (got != due) { throw new AssertionError(call + \" answered \" + got + \", due is \" + due); } }\n"
                + "public static void go() {\n" + body + "} }\n");
    }

    private static String checked(Matcher line) {
        String call = line.group(4);
        String due = line.group(5);
        if (line.group(2) == null) {
            return "due(" + due + ", " + call + ", \"" + call + "\");";
        }
        return line.group(2) + call + "; due(" + due + ", " + line.group(3) + ", \"" + call + "\");";
    }

    private static String example() {
        String readme = readmeText();
        int from = readme.indexOf("```java\n");
        int to = readme.indexOf("```\n", from + 8);
        if (from < 0 || to < 0) {
            throw new AssertionError("there is no example");
        }
        return readme.substring(from + 8, to);
    }

    private static String readmeText() {
        try {
            return Files.readString(README);
        } catch (IOException e) {
            throw new AssertionError(e);
        }
    }

    private static void run(String source) {
        try {
            Path folder = Files.createTempDirectory("example");
            try {
                compile(source, folder);
                runIn(folder);
            } finally {
                Files.deleteIfExists(folder.resolve("Example.class"));
                Files.deleteIfExists(folder);
            }
        } catch (IOException e) {
            throw new AssertionError(e);
        }
    }

    private static void compile(String source, Path folder) {
        JavaCompiler compiler = ToolProvider.getSystemJavaCompiler();
        StringWriter trouble = new StringWriter();
        List<String> options = List.of("-d", folder.toString(), "-cp", System.getProperty("java.class.path"));
        URI name = URI.create("string:///Example.java");
        JavaFileObject file = new SimpleJavaFileObject(name, JavaFileObject.Kind.SOURCE) {
            @Override
            public CharSequence getCharContent(boolean ignored) {
                return source;
            }
        };
        if (!compiler.getTask(trouble, null, null, options, null, List.of(file)).call()) {
            throw new AssertionError(trouble.toString());
        }
    }

    private static void runIn(Path folder) throws IOException {
        URL[] places = {folder.toUri().toURL()};
        try (URLClassLoader loader = new URLClassLoader(places, ReadmeTests.class.getClassLoader())) {
            loader.loadClass("Example").getMethod("go").invoke(null);
        } catch (InvocationTargetException e) {
            throw new AssertionError(e.getCause());
        } catch (ReflectiveOperationException e) {
            throw new AssertionError(e);
        }
    }

    private static void namesEachFile() {
        String readme = readmeText();
        try (Stream<Path> files = Files.list(Path.of("src/test/java"))) {
            files.forEach(file -> {
                String name = file.getFileName().toString().replace(".java", "");
                if (!readme.contains("`" + name + "`")) {
                    throw new AssertionError("it does not name " + name);
                }
            });
        } catch (IOException e) {
            throw new AssertionError(e);
        }
    }
}
