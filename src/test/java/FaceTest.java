import java.io.IOException;
import java.lang.reflect.Constructor;
import java.lang.reflect.Field;
import java.lang.reflect.Method;
import java.lang.reflect.Modifier;
import java.nio.file.Files;
import java.nio.file.Path;
import java.util.ArrayList;
import java.util.Arrays;
import java.util.List;
import java.util.TreeSet;

/** The public face is that of the document, and nothing else of the class can be seen from outside. */
public final class FaceTest {
    private static final Path DOC = Path.of("../shared/DOC.md");

    public static void main(String[] args) throws IOException {
        Checks.is("public members", shown(declared()), shown(promised()));
        Class<?> type = ThermoscopeGallery.class;
        Checks.is("final", Modifier.isFinal(type.getModifiers()) && Modifier.isPublic(type.getModifiers()), true);
        for (Method method : type.getDeclaredMethods()) {
            Checks.is(method + " public or private", onlyPublicOrPrivate(method.getModifiers()), true);
        }
        for (Field field : type.getDeclaredFields()) {
            Checks.is(field + " public or private", onlyPublicOrPrivate(field.getModifiers()), true);
        }
        for (Class<?> inside : type.getDeclaredClasses()) {
            int modifiers = inside.getModifiers();
            Checks.is(inside + " static, not public", Modifier.isStatic(modifiers) && !Modifier.isPublic(modifiers),
                    true);
        }
        Checks.finish("FaceTest");
    }

    private static boolean onlyPublicOrPrivate(int modifiers) {
        return Modifier.isPublic(modifiers) || Modifier.isPrivate(modifiers);
    }

    private static String shown(List<String> members) {
        return String.join("\n", new TreeSet<>(members)) + " (" + members.size() + ")";
    }

    private static List<String> promised() throws IOException {
        List<String> members = new ArrayList<>();
        for (String line : Files.readAllLines(DOC)) {
            if (line.startsWith("    public ")) {
                members.add(line.substring(11).replace("static final ", "").replaceAll(" = .*", "")
                        .replaceAll("(int|boolean) \\w+([,)])", "$1$2").replace(";", ""));
            }
        }
        return members;
    }

    private static List<String> declared() {
        List<String> members = new ArrayList<>();
        Class<?> type = ThermoscopeGallery.class;
        for (Constructor<?> made : type.getDeclaredConstructors()) {
            members.add(type.getName() + parameters(made.getParameterTypes()) + thrown(made.getExceptionTypes()));
        }
        for (Field field : type.getDeclaredFields()) {
            if (Modifier.isPublic(field.getModifiers())) {
                members.add(field.getType() + " " + field.getName());
            }
        }
        for (Method method : type.getDeclaredMethods()) {
            if (Modifier.isPublic(method.getModifiers())) {
                members.add(method.getReturnType() + " " + method.getName() + parameters(method.getParameterTypes())
                        + thrown(method.getExceptionTypes()));
            }
        }
        return members;
    }

    private static String parameters(Class<?>[] types) {
        return "(" + String.join(", ", Arrays.stream(types).map(Class::getSimpleName).toList()) + ")";
    }

    private static String thrown(Class<?>[] types) {
        String all = String.join(", ", Arrays.stream(types).map(Class::getSimpleName).toList());
        return all.isEmpty() ? "" : " throws " + all;
    }
}
