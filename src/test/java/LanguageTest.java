import java.io.IOException;
import java.lang.reflect.Array;
import java.lang.reflect.Executable;
import java.lang.reflect.Field;
import java.lang.reflect.Method;
import java.lang.reflect.Modifier;
import java.nio.charset.StandardCharsets;
import java.nio.file.Files;
import java.nio.file.Path;
import java.util.ArrayDeque;
import java.util.ArrayList;
import java.util.Collections;
import java.util.Deque;
import java.util.HashSet;
import java.util.IdentityHashMap;
import java.util.List;
import java.util.Set;

/** Those rules of LANGUAGE.md that can be seen from the program's text and from its classes. */
public final class LanguageTest {
    private static final Answers ANSWERS = new Answers();
    private static final Path PROGRAM = Path.of("src/main/java/PolicyForge.java");
    private static final String[] LEFT_OUT = {"->", "::", "finally", "synchronized", "assert ",
        "static {", "getMessage", "catch", "System.", "Thread", "Random", "Object", "Exact(",
        "double", "float", "equals(", "hashCode", "toString"};

    public static void main(String[] args) throws IOException, IllegalAccessException {
        List<String> lines = Files.readAllLines(PROGRAM, StandardCharsets.US_ASCII);
        headOfTheFile(lines);
        whatIsLeftOut(lines);
        lengthOfMethods(lines);
        namesOfTheFace();
        classes();
        room();
        ANSWERS.end();
    }

    private static void headOfTheFile(List<String> lines) {
        ANSWERS.sentence("without a package line");
        ANSWERS.due("package lines", 0, count(lines, "package "));
        ANSWERS.sentence("The library: only what stands here");
        ANSWERS.due("imports", 1, count(lines, "import "));
        ANSWERS.dueSame("import", "import java.util.NoSuchElementException;", lines.get(0));
    }

    private static long count(List<String> lines, String beginning) {
        return lines.stream().filter(line -> line.startsWith(beginning)).count();
    }

    private static void whatIsLeftOut(List<String> lines) {
        ANSWERS.sentence("in the part of it that these rules leave");
        for (String line : lines) {
            String code = line.strip();
            boolean comment = code.startsWith("//") || code.startsWith("*") || code.startsWith("/*");
            for (String piece : LEFT_OUT) {
                ANSWERS.due(piece + " in " + code, false, !comment && code.contains(piece));
            }
        }
    }

    /** A method ends with a brace that stands as far in as its first line. */
    private static void lengthOfMethods(List<String> lines) {
        ANSWERS.sentence("Methods stay short (some sixty lines)");
        for (int i = 0; i < lines.size(); i++) {
            String line = lines.get(i);
            boolean method = line.matches("( {4}| {8})[A-Za-z].*\\(.*\\{");
            if (method) {
                String end = line.substring(0, line.indexOf(line.strip())) + "}";
                int length = lines.subList(i, lines.size()).indexOf(end);
                ANSWERS.due("lines of " + line.strip(), true, length > 0 && length <= 60);
            }
        }
    }

    private static void namesOfTheFace() {
        ANSWERS.sentence("No private method bears the name of a public one");
        Set<String> face = new HashSet<>();
        for (Method method : PolicyForge.class.getMethods()) {
            face.add(method.getName());
        }
        for (Class<?> one : allClasses()) {
            for (Method method : one.getDeclaredMethods()) {
                boolean own = one != PolicyForge.class || Modifier.isPrivate(method.getModifiers());
                ANSWERS.due("name of " + method, false, own && face.contains(method.getName()));
            }
        }
    }

    private static List<Class<?>> allClasses() {
        List<Class<?>> all = new ArrayList<>(List.of(PolicyForge.class.getDeclaredClasses()));
        all.add(PolicyForge.class);
        return all;
    }

    private static void classes() {
        ANSWERS.sentence("A method takes at most seven parameters .. some twelve classes, and a "
            + "class some twenty fields");
        ANSWERS.due("classes", true, allClasses().size() <= 12);
        for (Class<?> one : allClasses()) {
            List<Executable> methods = new ArrayList<>(List.of(one.getDeclaredMethods()));
            methods.addAll(List.of(one.getDeclaredConstructors()));
            for (Executable method : methods) {
                ANSWERS.due("parameters of " + method, true, method.getParameterCount() <= 7);
            }
            int fields = 0;
            for (Field field : one.getDeclaredFields()) {
                boolean isStatic = Modifier.isStatic(field.getModifiers());
                fields += isStatic ? 0 : 1;
                ANSWERS.due("final " + field, true,
                    !isStatic || Modifier.isFinal(field.getModifiers()));
            }
            ANSWERS.due("fields of " + one, true, fields <= 20);
        }
    }

    /** Calls leave an object as great as it was made: no row grows, none is made anew. */
    private static void room() throws IllegalAccessException {
        ANSWERS.sentence("keep it small");
        PolicyForge x = new PolicyForge();
        long[] before = sizes(x);
        ANSWERS.due("objects " + before[0], true, before[0] <= 500);
        ANSWERS.due("fields and elements " + before[1], true, before[1] <= 10_000);
        String[] texts = {"thr(2,key(A),hash(9),and(after(1),older(999)))", "or(".repeat(33),
            "key(A)", "", "thr(2,thr(3,hash(0),hash(1),hash(2),hash(3)),thr(3,hash(4),hash(5),"
            + "hash(6),hash(7)),hash(8),hash(9))"};
        for (String text : texts) {
            Answers.read(x, text);
            Answers.answerOf(() -> x.satisfy(-1, -1, 999, 999));
            Answers.answerOf(() -> x.check(999, 999));
        }
        ANSWERS.due("objects", before[0], sizes(x)[0]);
        ANSWERS.due("fields and elements", before[1], sizes(x)[1]);
    }

    /** How many objects and arrays it holds, and how many fields and elements they have. */
    private static long[] sizes(Object whole) throws IllegalAccessException {
        Set<Object> seen = Collections.newSetFromMap(new IdentityHashMap<>());
        Deque<Object> left = new ArrayDeque<>();
        left.add(whole);
        long inside = 0;
        while (!left.isEmpty()) {
            Object one = left.remove();
            if (seen.add(one)) {
                List<Object> held = new ArrayList<>();
                inside += one.getClass().isArray() ? elements(one, held) : fields(one, held);
                left.addAll(held);
            }
        }
        return new long[] {seen.size(), inside};
    }

    private static int elements(Object array, List<Object> held) {
        int length = Array.getLength(array);
        for (int i = 0; i < length && array instanceof Object[] objects; i++) {
            if (objects[i] != null) {
                held.add(objects[i]);
            }
        }
        return length;
    }

    private static int fields(Object one, List<Object> held) throws IllegalAccessException {
        int count = 0;
        for (Field field : one.getClass().getDeclaredFields()) {
            if (Modifier.isStatic(field.getModifiers())) {
                continue;
            }
            count++;
            field.setAccessible(true);
            Object value = field.get(one);
            if (!field.getType().isPrimitive() && value != null) {
                held.add(value);
            }
        }
        return count;
    }
}
