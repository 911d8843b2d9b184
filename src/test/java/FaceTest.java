import java.lang.reflect.Constructor;
import java.lang.reflect.Field;
import java.lang.reflect.Method;
import java.lang.reflect.Modifier;
import java.util.Arrays;
import java.util.Set;
import java.util.TreeSet;

/** The public face: what the document lists and no more (LANGUAGE.md, rule 1). */
public final class FaceTest {
    private static final Set<String> FACE = Set.of(
        "int type(int) IllegalArgumentException IllegalStateException",
        "int operation(int, int, int, int, int, int) IllegalArgumentException IllegalStateException",
        "int strip(int, int) IllegalArgumentException",
        "int shape()",
        "int reach()",
        "int site(int, int, int) NoSuchElementException",
        "int run(boolean, int) IllegalArgumentException",
        "int count(int) NoSuchElementException",
        "int out(int) NoSuchElementException");

    public static void main(String[] args) {
        Check check = new Check();
        Class<?> face = CallShaper.class;
        check.due("the class", Modifier.toString(face.getModifiers()), "public final");
        constructors(check, face);
        methods(check, face);
        for (Field field : face.getDeclaredFields()) {
            check.due("private: " + field, Modifier.isPrivate(field.getModifiers()), true);
            check.due("static only if final: " + field, constantIfStatic(field), true);
        }
        for (Class<?> inside : face.getDeclaredClasses()) {
            int modifiers = inside.getModifiers();
            check.due("static, neither public nor protected: " + inside, Modifier.isStatic(modifiers)
                && !Modifier.isPublic(modifiers) && !Modifier.isProtected(modifiers), true);
        }
        check.end();
    }

    private static void constructors(Check check, Class<?> face) {
        Constructor<?>[] all = face.getDeclaredConstructors();
        check.due("constructors", all.length, 1);
        check.due("the constructor", all[0].toString(), "public CallShaper()");
    }

    private static void methods(Check check, Class<?> face) {
        Set<String> seen = new TreeSet<>();
        for (Method method : face.getDeclaredMethods()) {
            if (Modifier.isPrivate(method.getModifiers())) {
                boolean taken = FACE.stream().anyMatch(line -> line.startsWith("int " + method.getName() + "("));
                check.due("a private method of a public one's name: " + method, taken, false);
            } else {
                check.due("public, not static: " + method, Modifier.toString(method.getModifiers()), "public");
                seen.add(line(method));
            }
        }
        check.due("the methods", seen, new TreeSet<>(FACE));
    }

    private static String line(Method method) {
        StringBuilder line = new StringBuilder(method.getReturnType() + " " + method.getName());
        line.append(Arrays.toString(method.getParameterTypes()).replace('[', '(').replace(']', ')'));
        for (Class<?> thrown : method.getExceptionTypes()) {
            line.append(' ').append(thrown.getSimpleName());
        }
        return line.toString();
    }

    private static boolean constantIfStatic(Field field) {
        return !Modifier.isStatic(field.getModifiers()) || Modifier.isFinal(field.getModifiers());
    }
}
