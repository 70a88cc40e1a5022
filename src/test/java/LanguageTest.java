import java.io.IOException;
import java.lang.reflect.Field;
import java.lang.reflect.Method;
import java.lang.reflect.Modifier;
import java.nio.file.Files;
import java.nio.file.Path;
import java.util.List;
import java.util.regex.Pattern;

/** Those rules of LANGUAGE.md that can be read from the program's text and its classes. */
final class LanguageTest {
    private static final Path PROGRAM = Path.of("src/main/java/RingProcessor.java");
    private static final List<String> NOT_ALLOWED = List.of("package", "finally", "synchronized", "assert", "volatile", "transient",
            "native", "protected", "Thread", "Runtime", "Object", "hashCode", "getMessage", "import (?!java\\.util\\.)",
            "System\\.(?!arraycopy)", "Math\\.\\w+Exact", "throw (?!new \\w+\\()", "throw new \\w+\\([^)\"]");

    public static void main(String[] args) throws IOException {
        String text = withoutComments(Files.readString(PROGRAM));
        for (String word : NOT_ALLOWED) {
            Due.is("what is not allowed: " + word, Pattern.compile("\\b" + word).matcher(text).results().count(), 0);
        }
        for (String sign : new String[] {"->", "::", "static {", "@"}) {
            Due.is("the sign " + sign, text.contains(sign) ? 1 : 0, 0);
        }
        methodsAreShort(text);
        classesAreSmall(RingProcessor.class);
        Due.is("not above twelve classes", RingProcessor.class.getDeclaredClasses().length < 12 ? 1 : 0, 1);
        for (Class<?> inside : RingProcessor.class.getDeclaredClasses()) {
            classesAreSmall(inside);
        }
        Due.end();
    }

    private static String withoutComments(String text) {
        return Pattern.compile("/\\*.*?\\*/|//[^\n]*", Pattern.DOTALL).matcher(text).replaceAll("");
    }

    /** Rule 11: some sixty lines. A method begins at a line that ends in ") {" or names what it throws. */
    private static void methodsAreShort(String text) {
        int start = 0;
        int line = 0;
        String indent = "";
        for (String s : text.split("\n")) {
            line++;
            if (Pattern.matches(" {4,8}(public|private|int|long|void|boolean|Descriptor)\\b.*\\(.*\\{", s)) {
                start = line;
                indent = s.substring(0, s.length() - s.stripLeading().length());
            } else if (start > 0 && s.equals(indent + "}")) {
                Due.is("the method at line " + start + " is short", line - start <= 60 ? 1 : 0, 1);
                start = 0;
            }
        }
    }

    /** Rules 5 and 11. */
    private static void classesAreSmall(Class<?> c) {
        int own = 0;
        for (Field f : c.getDeclaredFields()) {
            if (Modifier.isStatic(f.getModifiers())) {
                boolean isConstant = Modifier.isFinal(f.getModifiers()) && (f.getType() == int.class || f.getType() == long.class);
                Due.is(c + " has the constant " + f.getName(), isConstant ? 1 : 0, 1);
            } else {
                own++;
            }
        }
        Due.is(c + " has few fields", own <= 20 ? 1 : 0, 1);
        for (Method m : c.getDeclaredMethods()) {
            Due.is(m + " has few parameters", m.getParameterCount() <= 7 ? 1 : 0, 1);
        }
    }
}
