import java.io.IOException;
import java.lang.reflect.Method;
import java.net.URL;
import java.net.URLClassLoader;
import java.nio.file.Files;
import java.nio.file.Path;
import java.util.List;
import java.util.Set;
import java.util.TreeSet;
import java.util.regex.MatchResult;
import java.util.regex.Pattern;
import java.util.stream.Collectors;
import java.util.stream.Stream;
import javax.tools.ToolProvider;

/** README.md: its examples answer what it says, and it names each test of the project and no other. */
final class ReadmeTest {
    private static final Pattern EXAMPLE = Pattern.compile("```java\n(.*?)```", Pattern.DOTALL);
    private static final Pattern ANSWERED = Pattern.compile("(?m)^(x\\.\\w+\\(.*\\)); +// (-?\\d+): .*$");

    public static void main(String[] args) throws IOException, ReflectiveOperationException {
        String readme = Files.readString(Path.of("README.md"));
        List<String> examples = EXAMPLE.matcher(readme).results().map(found -> found.group(1)).toList();
        Due.is("examples", examples.size(), 2);
        for (String example : examples) {
            holdAnswers(example);
        }
        Due.is("tests that it names are " + namedTests(readme), namedTests(readme).equals(tests()) ? 1 : 0, 1);
        Due.is(".ci/run is a command", Files.isExecutable(Path.of(".ci/run")) ? 1 : 0, 1);
        Due.end();
    }

    private static void holdAnswers(String example) throws IOException, ReflectiveOperationException {
        List<MatchResult> answered = ANSWERED.matcher(example).results().toList();
        long[] got = answers(example);
        Due.is("answers of an example", got.length, answered.size());
        Due.is("it has answers", got.length >= 4 ? 1 : 0, 1);
        for (int k = 0; k < got.length; k++) {
            Due.is("README.md: " + answered.get(k).group(1), got[k], Long.parseLong(answered.get(k).group(2)));
        }
    }

    /** The example as it stands is compiled and run, each call with an answer handing this to a row. */
    private static long[] answers(String example) throws IOException, ReflectiveOperationException {
        String body = ANSWERED.matcher(example).replaceAll("all.add((long) $1);");
        String source = "public final class Example { public static long[] answers() {\n"
                + "java.util.List<Long> all = new java.util.ArrayList<>();\n" + body
                + "return all.stream().mapToLong(Long::longValue).toArray(); } }\n";
        Path folder = Files.createTempDirectory("readme");
        Path file = Files.writeString(folder.resolve("Example.java"), source);
        int refused = ToolProvider.getSystemJavaCompiler().run(null, null, null, "-cp", System.getProperty("java.class.path"),
                "-d", folder.toString(), file.toString());
        Due.is("the example compiles", refused, 0);
        try (URLClassLoader loader = new URLClassLoader(new URL[] {folder.toUri().toURL()})) {
            Method method = loader.loadClass("Example").getMethod("answers");
            return (long[]) method.invoke(null);
        } finally {
            Files.deleteIfExists(file);
            Files.deleteIfExists(folder.resolve("Example.class"));
            Files.deleteIfExists(folder);
        }
    }

    private static Set<String> namedTests(String readme) {
        return Pattern.compile("`(\\w+Test)`").matcher(readme).results().map(found -> found.group(1))
                .collect(Collectors.toCollection(TreeSet::new));
    }

    private static Set<String> tests() throws IOException {
        try (Stream<Path> files = Files.list(Path.of("src/test/java"))) {
            return files.map(file -> file.getFileName().toString()).filter(name -> name.endsWith("Test.java"))
                    .map(name -> name.substring(0, name.length() - ".java".length()))
                    .collect(Collectors.toCollection(TreeSet::new));
        }
    }
}
