import java.io.IOException;
import java.lang.reflect.Field;
import java.lang.reflect.Method;
import java.lang.reflect.Modifier;
import java.nio.file.Files;
import java.nio.file.Path;
import java.util.List;
import java.util.Map;
import java.util.TreeMap;
import java.util.regex.Matcher;
import java.util.regex.Pattern;
import java.util.stream.Stream;

/** Those rules of LANGUAGE.md that can be read from the program's text and its classes. */
final class LanguageTest {
    private static final Path PROGRAM = Path.of("src/main/java/RingProcessor.java");
    private static final List<String> NOT_ALLOWED = List.of("package", "finally", "synchronized", "assert", "volatile", "transient",
            "native", "protected", "Thread", "Runtime", "Object", "hashCode", "getMessage", "import (?!java\\.util\\.)",
            "System\\.(?!arraycopy)", "Math\\.\\w+Exact", "throw (?!new \\w+\\()", "throw new \\w+\\([^)\"]");

    /** A method begins at a line that ends in "{" and names its parameters, and ends at a brace below its first letter. */
    private static final Pattern METHOD = Pattern.compile(
            "(?m)^( {4,8})(?:(?:public|private|static) )*(?:int|long|void|boolean|Descriptor) (\\w+)\\([^{}]*\\{\\n((?s:.*?))^\\1\\}$");
    private static final int MOST_LINES = 60;
    private static final int DEEPEST = 8;

    public static void main(String[] args) throws IOException {
        String text = withoutComments(Files.readString(PROGRAM));
        for (String word : NOT_ALLOWED) {
            Due.is("what is not allowed: " + word, Pattern.compile("\\b" + word).matcher(text).results().count(), 0);
        }
        for (String sign : new String[] {"->", "::", "static {", "@"}) {
            Due.is("the sign " + sign, text.contains(sign) ? 1 : 0, 0);
        }
        Map<String, String> methods = methods(text);
        Due.is("all methods are found", methods.size(), namesOfMethods());
        methodsAreShort(methods);
        for (String name : methods.keySet()) {
            Due.is("calls below " + name + " are too deep", depth(methods, name, 0) > DEEPEST ? 1 : 0, 0);
        }
        classesAreSmall(RingProcessor.class);
        Due.is("not above twelve classes", RingProcessor.class.getDeclaredClasses().length < 12 ? 1 : 0, 1);
        for (Class<?> inside : RingProcessor.class.getDeclaredClasses()) {
            classesAreSmall(inside);
        }
        Due.end();
    }

    private static String withoutComments(String text) {
        return Pattern.compile("/\\*.*?\\*/|//[^\n]*", Pattern.DOTALL).matcher(text).replaceAll("");
    }

    /** Rule 11, and rule 12: what is made is made in constructors, or thrown. */
    private static void methodsAreShort(Map<String, String> methods) {
        for (Map.Entry<String, String> method : methods.entrySet()) {
            long lines = method.getValue().lines().count();
            Due.is(method.getKey() + " is short", lines + 2 <= MOST_LINES ? 1 : 0, 1);
            boolean makes = Pattern.compile("(?<!throw )\\bnew\\b").matcher(method.getValue()).find();
            Due.is(method.getKey() + " makes no object", makes ? 1 : 0, 0);
        }
    }

    /** Bodies by name: methods of one name are taken as one, which can only make calls deeper. */
    private static Map<String, String> methods(String text) {
        Map<String, String> methods = new TreeMap<>();
        Matcher found = METHOD.matcher(text);
        while (found.find()) {
            methods.merge(found.group(2), found.group(3), String::concat);
        }
        return methods;
    }

    /** Rules 8 and 11. A method that calls itself, through others too, comes out as too deep. */
    private static int depth(Map<String, String> methods, String name, int above) {
        int deepest = above + 1;
        if (deepest > DEEPEST) {
            return deepest;
        }
        for (String called : methods.keySet()) {
            if (Pattern.compile("\\b" + called + "\\(").matcher(methods.get(name)).find()) {
                deepest = Math.max(deepest, depth(methods, called, above + 1));
            }
        }
        return deepest;
    }

    private static long namesOfMethods() {
        Stream<Class<?>> all = Stream.concat(Stream.of(RingProcessor.class), Stream.of(RingProcessor.class.getDeclaredClasses()));
        return all.flatMap(c -> Stream.of(c.getDeclaredMethods())).map(Method::getName).distinct().count();
    }

    /** Rules 5 and 11. */
    private static void classesAreSmall(Class<?> c) {
        int own = 0;
        for (Field f : c.getDeclaredFields()) {
            if (Modifier.isStatic(f.getModifiers())) {
                boolean isConstant = Modifier.isFinal(f.getModifiers()) && (f.getType() == int.class || f.getType() == long.class);
                Due.is(c + " has the constant " + f.getName(), isConstant ? 1 : 0, 1);
            } else {
                own++;
            }
        }
        Due.is(c + " has few fields", own <= 20 ? 1 : 0, 1);
        for (Method m : c.getDeclaredMethods()) {
            Due.is(m + " has few parameters", m.getParameterCount() <= 7 ? 1 : 0, 1);
        }
    }
}
