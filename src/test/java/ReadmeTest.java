import java.io.ByteArrayOutputStream;
import java.io.PrintStream;
import java.lang.reflect.Method;
import java.lang.reflect.Modifier;
import java.net.URI;
import java.net.URL;
import java.net.URLClassLoader;
import java.nio.charset.StandardCharsets;
import java.nio.file.Files;
import java.nio.file.Path;
import java.util.Comparator;
import java.util.List;
import java.util.stream.Stream;
import javax.tools.JavaCompiler;
import javax.tools.JavaFileObject;
import javax.tools.SimpleJavaFileObject;
import javax.tools.ToolProvider;

/** README.md tells every call, and its example prints what stands there. */
public final class ReadmeTest extends Checks {
    public static void main(String[] args) throws Exception {
        String readme = Files.readString(Path.of("README.md"));
        everyCallIsTold(readme);
        everyTestIsTold(readme);
        theExamplePrintsWhatStandsThere(readme);
        finish(ReadmeTest.class);
    }

    private static void everyCallIsTold(String readme) {
        sentence("README.md says how to use the class");
        for (Method method : PasteHouse.class.getDeclaredMethods()) {
            if (Modifier.isPublic(method.getModifiers())) {
                due(method.getName() + " is told", readme.contains("`" + method.getName() + "("), true);
            }
        }
    }

    private static void everyTestIsTold(String readme) throws Exception {
        sentence("README.md says how to run its tests");
        due(".ci/run is told", readme.contains(".ci/run"), true);
        try (Stream<Path> files = Files.list(Path.of("src/test/java"))) {
            for (Path file : files.toList()) {
                String name = file.getFileName().toString().replace(".java", "");
                due(name + " is told", !name.endsWith("Test") || readme.contains("`" + name + "`"), true);
            }
        }
    }

    private static void theExamplePrintsWhatStandsThere(String readme) throws Exception {
        sentence("README.md's example");
        due("the example", outputOf(blockOf(readme, "java")), blockOf(readme, "text"));
    }

    private static String blockOf(String readme, String kind) {
        String[] parts = readme.split("```" + kind + "\n", 2);
        return parts.length == 2 ? parts[1].split("```", 2)[0] : "there is no block of " + kind;
    }

    private static String outputOf(String source) throws Exception {
        Path made = Files.createTempDirectory("readme");
        try {
            return compiles(source, made) ? run(made) : "the example does not compile";
        } finally {
            remove(made);
        }
    }

    private static boolean compiles(String source, Path made) {
        JavaCompiler compiler = ToolProvider.getSystemJavaCompiler();
        JavaFileObject file = new SimpleJavaFileObject(URI.create("string:///Example.java"), JavaFileObject.Kind.SOURCE) {
            @Override
            public CharSequence getCharContent(boolean ignoreEncodingErrors) {
                return source;
            }
        };
        List<String> options = List.of("-proc:none", "-cp", System.getProperty("java.class.path"), "-d", made.toString());
        return compiler.getTask(null, null, null, options, null, List.of(file)).call();
    }

    private static String run(Path made) throws Exception {
        PrintStream before = System.out;
        ByteArrayOutputStream printed = new ByteArrayOutputStream();
        URL[] places = {made.toUri().toURL()};
        try (URLClassLoader loader = new URLClassLoader(places, ReadmeTest.class.getClassLoader())) {
            System.setOut(new PrintStream(printed, true, StandardCharsets.UTF_8));
            loader.loadClass("Example").getMethod("main", String[].class).invoke(null, (Object) new String[0]);
        } finally {
            System.setOut(before);
        }
        return printed.toString(StandardCharsets.UTF_8).replace(System.lineSeparator(), "\n");
    }

    private static void remove(Path directory) throws Exception {
        try (Stream<Path> files = Files.walk(directory)) {
            for (Path file : files.sorted(Comparator.reverseOrder()).toList()) {
                Files.delete(file);
            }
        }
    }
}
