import java.lang.reflect.Constructor;
import java.lang.reflect.Field;
import java.lang.reflect.Method;
import java.lang.reflect.Modifier;
import java.util.Arrays;
import java.util.Set;
import java.util.TreeSet;
import java.util.stream.Collectors;

/** The public face: what the document lists and nothing else. */
public final class FaceTest {
    private static final Set<String> FACE = new TreeSet<>(Set.of(
        "boolean text(int,int,int,int,int)",
        "int read() IllegalArgumentException",
        "int fault()",
        "boolean holds(int,int,int,int) NoSuchElementException",
        "int word(int) IndexOutOfBoundsException",
        "int size(int) NoSuchElementException IllegalArgumentException",
        "int satisfy(int,int,int,int) NoSuchElementException",
        "int put(int) IllegalArgumentException IllegalStateException",
        "void clear()",
        "int item(int) IndexOutOfBoundsException",
        "int check(int,int) NoSuchElementException",
        "int done()"));

    public static void main(String[] args) {
        Answers answers = new Answers();
        Class<?> face = PolicyForge.class;
        answers.due("public and final", Modifier.PUBLIC | Modifier.FINAL, face.getModifiers());
        Set<String> found = new TreeSet<>();
        for (Method method : face.getDeclaredMethods()) {
            if (!Modifier.isPrivate(method.getModifiers()) && !method.isSynthetic()) {
                found.add(tell(method));
            }
        }
        answers.due("methods " + found, true, found.equals(FACE));
        Constructor<?>[] constructors = face.getDeclaredConstructors();
        answers.due("constructors", 1, constructors.length);
        answers.due("constructor without parameters", 0, constructors[0].getParameterCount());
        answers.due("public constructor", Modifier.PUBLIC, constructors[0].getModifiers());
        for (Field field : face.getDeclaredFields()) {
            answers.due("private " + field, true, Modifier.isPrivate(field.getModifiers()));
            answers.due("final if static " + field, true, !Modifier.isStatic(field.getModifiers())
                || Modifier.isFinal(field.getModifiers()));
        }
        for (Class<?> inner : face.getDeclaredClasses()) {
            answers.due("static " + inner, true, Modifier.isStatic(inner.getModifiers()));
        }
        answers.end();
    }

    private static String tell(Method method) {
        String parameters = Arrays.stream(method.getParameterTypes())
            .map(Class::getSimpleName).collect(Collectors.joining(","));
        String thrown = Arrays.stream(method.getExceptionTypes())
            .map(type -> " " + type.getSimpleName()).collect(Collectors.joining());
        return method.getReturnType().getSimpleName() + " " + method.getName()
            + "(" + parameters + ")" + thrown;
    }
}
