import java.lang.reflect.Constructor;
import java.lang.reflect.Field;
import java.lang.reflect.Member;
import java.lang.reflect.Method;
import java.lang.reflect.Modifier;
import java.util.Set;
import java.util.TreeSet;

/** The public face, and rule 1 of LANGUAGE.md. */
final class FaceTest {
    private static final Set<String> FACE = new TreeSet<>(Set.of(
            "void poke(int, long)", "long peek(int)", "void set(int, long)", "long get(int)", "int run(int)",
            "void go()", "void interrupt(int)", "int state(int)", "long saved()", "int copy(int, int)",
            "int reach(int, int, int, int)"));

    public static void main(String[] args) {
        Class<?> face = RingProcessor.class;
        Due.is("public and final", face.getModifiers(), Modifier.PUBLIC | Modifier.FINAL);
        Set<String> found = new TreeSet<>();
        Set<String> names = new TreeSet<>();
        for (Method m : face.getDeclaredMethods()) {
            if (!Modifier.isPrivate(m.getModifiers())) {
                found.add(signature(m));
                names.add(m.getName());
                Due.is(m.getName() + " is public and no more", m.getModifiers(), Modifier.PUBLIC);
            }
        }
        Due.is("the methods are " + found, found.equals(FACE) ? 1 : 0, 1);
        for (Class<?> inside : face.getDeclaredClasses()) {
            Due.is(inside + " is static", inside.getModifiers() & Modifier.STATIC, Modifier.STATIC);
            Due.is(inside + " is not public", inside.getModifiers() & (Modifier.PUBLIC | Modifier.PROTECTED), 0);
            privateNames(inside, names);
        }
        privateNames(face, names);
        for (Field f : face.getDeclaredFields()) {
            boolean isNone = f.getName().equals("NONE");
            int want = isNone ? Modifier.PUBLIC | Modifier.STATIC | Modifier.FINAL : Modifier.PRIVATE;
            int mask = Modifier.PRIVATE | (isNone ? Modifier.PUBLIC | Modifier.STATIC | Modifier.FINAL : 0);
            Due.is("field " + f.getName(), f.getModifiers() & mask, want);
            if (Modifier.isStatic(f.getModifiers())) {
                Due.is("static field " + f.getName() + " is final", isFinal(f), 1);
            }
        }
        Constructor<?>[] made = face.getDeclaredConstructors();
        Due.is("constructors", made.length, 1);
        Due.is("its parameters", made[0].getParameterCount(), 0);
        Due.is("it is public", made[0].getModifiers(), Modifier.PUBLIC);
        Due.is("NONE", RingProcessor.NONE, -1);
        Due.end();
    }

    private static int isFinal(Member m) {
        return Modifier.isFinal(m.getModifiers()) ? 1 : 0;
    }

    private static void privateNames(Class<?> c, Set<String> publicNames) {
        for (Method m : c.getDeclaredMethods()) {
            boolean hidden = c != RingProcessor.class || Modifier.isPrivate(m.getModifiers());
            if (hidden) {
                Due.is(c + " has " + m.getName() + " of the face's names", publicNames.contains(m.getName()) ? 1 : 0, 0);
            }
        }
    }

    private static String signature(Method m) {
        StringBuilder text = new StringBuilder(m.getReturnType().getName()).append(' ').append(m.getName()).append('(');
        String between = "";
        for (Class<?> parameter : m.getParameterTypes()) {
            text.append(between).append(parameter.getName());
            between = ", ";
        }
        return text.append(')').toString();
    }
}
