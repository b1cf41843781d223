import java.io.IOException;
import java.lang.reflect.InvocationTargetException;
import java.lang.reflect.Method;
import java.nio.file.Files;
import java.nio.file.Path;
import java.util.Set;
import java.util.TreeSet;
import java.util.regex.Matcher;
import java.util.regex.Pattern;

/** The example of README.md: every call of it answers what stands behind it there. */
public final class ReadmeTest {
    private static final Answers ANSWERS = new Answers();
    private static final Pattern CALL = Pattern.compile(
        "forge\\.(\\w+)\\((.*?)\\);(?:\\s*// (throws \\w+|\\S+).*)?");

    public static void main(String[] args) throws IOException, ReflectiveOperationException {
        PolicyForge forge = new PolicyForge();
        Set<String> shown = new TreeSet<>();
        for (String line : Files.readAllLines(Path.of("README.md"))) {
            Matcher call = CALL.matcher(line);
            if (call.matches()) {
                shown.add(call.group(1));
                String due = call.group(3) == null ? "nothing" : call.group(3);
                ANSWERS.dueSame(line, due, answer(forge, call.group(1), call.group(2)));
            }
        }
        Set<String> face = new TreeSet<>();
        for (Method method : PolicyForge.class.getMethods()) {
            if (method.getDeclaringClass() == PolicyForge.class) {
                face.add(method.getName());
            }
        }
        ANSWERS.dueSame("the calls that are shown", face, shown);
        ANSWERS.end();
    }

    private static String answer(PolicyForge forge, String name, String arguments)
            throws ReflectiveOperationException {
        for (Method method : PolicyForge.class.getMethods()) {
            if (method.getName().equals(name)) {
                return answer(forge, method, numbers(arguments));
            }
        }
        return "no such call";
    }

    private static String answer(PolicyForge forge, Method method, Object[] numbers)
            throws ReflectiveOperationException {
        try {
            Object answer = method.invoke(forge, numbers);
            return answer == null ? "nothing" : answer.toString();
        } catch (InvocationTargetException e) {
            return "throws " + e.getCause().getClass().getSimpleName();
        }
    }

    private static Object[] numbers(String arguments) {
        if (arguments.isEmpty()) {
            return new Object[0];
        }
        String[] texts = arguments.split(", ");
        Object[] numbers = new Object[texts.length];
        for (int i = 0; i < texts.length; i++) {
            numbers[i] = Integer.decode(texts[i]);
        }
        return numbers;
    }
}
