import java.lang.reflect.InvocationTargetException;
import java.lang.reflect.Method;
import java.nio.charset.StandardCharsets;
import java.nio.file.Files;
import java.nio.file.Path;
import java.util.HashMap;
import java.util.HashSet;
import java.util.Map;
import java.util.Set;
import java.util.regex.Matcher;
import java.util.regex.Pattern;

/** The lines of README.md that show how to use the class: each must answer what stands behind. */
public final class ReadmeTest {
    private static final Checks CHECKS = new Checks("ReadmeTest");
    private static final Pattern BLOCK = Pattern.compile("```java\\R(.*?)```", Pattern.DOTALL);
    private static final Pattern LINE = Pattern.compile(
            "(?:int (\\w+) = )?press\\.(\\w+)\\((.*)\\);\\s*// ('.'|-?\\d+|\\w+Exception).*");
    private static final String BEGINNING = "GraticulePress press = new GraticulePress();";

    public static void main(String[] args) throws Exception {
        String text = Files.readString(Path.of("README.md"), StandardCharsets.UTF_8);
        Matcher block = BLOCK.matcher(text);
        CHECKS.holds("that there are lines to run", block.find());
        run(block.group(1));
        everyCallIsTold(text);
        CHECKS.end();
    }

    private static void run(String lines) throws Exception {
        GraticulePress press = new GraticulePress();
        Map<String, Object> known = new HashMap<>();
        Set<String> called = new HashSet<>();
        CHECKS.holds("that the lines begin with a new object", lines.startsWith(BEGINNING));
        for (String line : lines.substring(BEGINNING.length()).split("\\R")) {
            if (!line.isBlank()) {
                Matcher told = LINE.matcher(line);
                CHECKS.holds(line, told.matches());
                String answer = answer(press, told.group(2), told.group(3), known);
                CHECKS.same(line, answer, told.group(4));
                called.add(told.group(2));
                if (told.group(1) != null) {
                    known.put(told.group(1), Integer.valueOf(answer));
                }
            }
        }
        CHECKS.same("calls that are shown", called.size(), names().size());
    }

    private static String answer(GraticulePress press, String name, String words,
            Map<String, Object> known) throws Exception {
        String[] parts = words.isEmpty() ? new String[0] : words.split(", ");
        Object[] arguments = new Object[parts.length];
        for (int i = 0; i < parts.length; i++) {
            arguments[i] = value(parts[i], known);
        }
        try {
            Object answer = method(name).invoke(press, arguments);
            return answer instanceof Character ? "'" + answer + "'" : answer.toString();
        } catch (InvocationTargetException e) {
            return e.getCause().getClass().getSimpleName();
        }
    }

    private static Object value(String word, Map<String, Object> known) {
        if (word.startsWith("'")) {
            return word.charAt(1);
        }
        if (word.equals("true") || word.equals("false")) {
            return Boolean.valueOf(word);
        }
        if (word.equals("GraticulePress.PLATE")) {
            return GraticulePress.PLATE;
        }
        return known.containsKey(word) ? known.get(word) : Integer.valueOf(word);
    }

    private static Method method(String name) {
        for (Method method : GraticulePress.class.getMethods()) {
            if (method.getName().equals(name)) {
                return method;
            }
        }
        throw new IllegalArgumentException("there is no call " + name);
    }

    private static Set<String> names() {
        Set<String> names = new HashSet<>();
        for (Method method : GraticulePress.class.getMethods()) {
            if (method.getDeclaringClass() == GraticulePress.class) {
                names.add(method.getName());
            }
        }
        return names;
    }

    private static void everyCallIsTold(String text) {
        for (String name : names()) {
            CHECKS.holds("a row on " + name, text.contains("| `" + name + "("));
        }
    }
}
