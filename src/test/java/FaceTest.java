import java.lang.reflect.Constructor;
import java.lang.reflect.Executable;
import java.lang.reflect.Field;
import java.lang.reflect.Method;
import java.lang.reflect.Modifier;
import java.nio.charset.StandardCharsets;
import java.nio.file.Files;
import java.nio.file.Path;
import java.util.Arrays;
import java.util.Set;
import java.util.TreeSet;
import java.util.stream.Collectors;

/** The public face, and what of ../shared/LANGUAGE.md can be seen from outside a method. */
public final class FaceTest {
    private static final Checks CHECKS = new Checks("FaceTest");
    private static final Class<?> FACE = GraticulePress.class;
    private static final String AT = "IndexOutOfBoundsException";
    private static final String ARGUMENT = "IllegalArgumentException";
    private static final String STATE = "IllegalStateException";

    public static void main(String[] args) throws Exception {
        constants();
        face();
        privateNames();
        classesInside();
        staticFields();
        source();
        CHECKS.end();
    }

    private static void constants() {
        CHECKS.same("NONE", GraticulePress.NONE, -1);
        CHECKS.same("PLATE", GraticulePress.PLATE, 0);
        CHECKS.same("CONE", GraticulePress.CONE, 1);
    }

    private static void face() {
        Set<String> due = new TreeSet<>(Set.of(
                "int NONE", "int PLATE", "int CONE", "GraticulePress()",
                "int letter(char) " + ARGUMENT + " " + STATE,
                "int place(int int int) " + ARGUMENT + " " + STATE,
                "int name(int) " + AT + " " + STATE,
                "char spelled(int int int) " + AT + " " + ARGUMENT));
        due.addAll(Set.of(
                "int pass(int) " + ARGUMENT + " " + STATE,
                "int sheet(int int int) " + ARGUMENT + " " + STATE,
                "int dot(int int boolean) " + AT,
                "int side(int int) " + AT,
                "char drawn(int int int) " + AT,
                "int worth(int) " + AT,
                "int best(int) " + AT + " " + STATE,
                "int print() " + STATE,
                "char printed(int int int int) " + AT));
        Set<String> got = new TreeSet<>();
        for (Field field : FACE.getDeclaredFields()) {
            if (!Modifier.isPrivate(field.getModifiers())) {
                CHECKS.same("field " + field.getName(), field.getModifiers(),
                        Modifier.PUBLIC | Modifier.STATIC | Modifier.FINAL);
                got.add(field.getType().getSimpleName() + " " + field.getName());
            }
        }
        for (Constructor<?> constructor : FACE.getDeclaredConstructors()) {
            got.add(signature("GraticulePress", constructor));
            CHECKS.holds("public constructor", Modifier.isPublic(constructor.getModifiers()));
        }
        for (Method method : FACE.getDeclaredMethods()) {
            if (!Modifier.isPrivate(method.getModifiers())) {
                CHECKS.same(method.getName(), method.getModifiers(), Modifier.PUBLIC);
                got.add(signature(method.getReturnType() + " " + method.getName(), method));
            }
        }
        CHECKS.same("the face", got.toString(), due.toString());
        CHECKS.same("the class", FACE.getModifiers(), Modifier.PUBLIC | Modifier.FINAL);
    }

    private static String signature(String name, Executable call) {
        return (name + "(" + names(call.getParameterTypes()) + ") "
                + names(call.getExceptionTypes())).trim();
    }

    private static String names(Class<?>[] types) {
        return Arrays.stream(types).map(Class::getSimpleName).collect(Collectors.joining(" "));
    }

    private static void privateNames() {
        Set<String> publicNames = new TreeSet<>();
        for (Method method : FACE.getDeclaredMethods()) {
            if (Modifier.isPublic(method.getModifiers())) {
                publicNames.add(method.getName());
            }
        }
        for (Method method : FACE.getDeclaredMethods()) {
            CHECKS.holds("another name than " + method.getName(),
                    Modifier.isPublic(method.getModifiers())
                    || !publicNames.contains(method.getName()));
        }
        for (Class<?> inside : FACE.getDeclaredClasses()) {
            for (Method method : inside.getDeclaredMethods()) {
                CHECKS.holds("another name than " + method.getName(),
                        !publicNames.contains(method.getName()));
            }
        }
    }

    private static void classesInside() {
        Class<?>[] inside = FACE.getDeclaredClasses();
        CHECKS.holds("at most twelve classes", inside.length + 1 <= 12);
        for (Class<?> each : inside) {
            int modifiers = each.getModifiers();
            CHECKS.holds(each.getName() + " is static, and not public",
                    Modifier.isStatic(modifiers)
                    && !Modifier.isPublic(modifiers) && !Modifier.isProtected(modifiers));
        }
    }

    private static void staticFields() {
        for (Field field : FACE.getDeclaredFields()) {
            int modifiers = field.getModifiers();
            CHECKS.holds(field.getName() + " is a constant, if it is static",
                    !Modifier.isStatic(modifiers)
                    || Modifier.isFinal(modifiers) && field.getType().isPrimitive());
        }
        for (Class<?> inside : FACE.getDeclaredClasses()) {
            for (Field field : inside.getDeclaredFields()) {
                CHECKS.holds(field.getName() + " is not static",
                        !Modifier.isStatic(field.getModifiers()));
            }
        }
    }

    private static void source() throws Exception {
        Path path = Path.of("src/main/java/GraticulePress.java");
        String text = Files.readString(path, StandardCharsets.ISO_8859_1);
        CHECKS.holds("signs 1 to 127 alone", text.chars().allMatch(sign -> sign > 0 && sign < 128));
        String[] never = {"import ", "package ", "->", "::", "try ", "catch ", "finally",
            "synchronized", "assert ", "instanceof", "\" +", "+ \"", "double ", "Exact("};
        for (String word : never) {
            CHECKS.holds("there is no '" + word + "'", !text.contains(word));
        }
    }
}
