import java.lang.reflect.Constructor;
import java.lang.reflect.Field;
import java.lang.reflect.Method;
import java.lang.reflect.Modifier;
import java.nio.file.Files;
import java.nio.file.Path;
import java.util.Arrays;
import java.util.Set;
import java.util.TreeSet;
import java.util.regex.Matcher;
import java.util.regex.Pattern;
import java.util.stream.Collectors;

/** The public face is the document's, word for word, and nothing else is to be seen from outside. */
public final class FaceTest {
    public static void main(String[] args) throws Exception {
        Check.same("face", String.join("\n", documentFace()), String.join("\n", classFace()));
        Check.same("class", "public final", Modifier.toString(ThornCores.class.getModifiers()));
        nothingElse();
        Check.finish();
    }

    private static Set<String> documentFace() throws Exception {
        String document = Files.readString(Path.of("../shared/DOC.md"));
        Matcher face = Pattern.compile("```java\n(.*?)```", Pattern.DOTALL).matcher(document);
        if (!face.find()) {
            return Set.of("no face found in the document");
        }
        Set<String> found = new TreeSet<>();
        for (String line : face.group(1).split("\n")) {
            if (line.endsWith(";")) {
                found.add(line.trim().replace("java.util.", "").replaceAll("(int|char) \\w+([,)])", "$1$2"));
            }
        }
        return found;
    }

    private static Set<String> classFace() {
        Set<String> found = new TreeSet<>();
        for (Constructor<?> made : ThornCores.class.getConstructors()) {
            found.add("public ThornCores" + ends(made.getParameterTypes(), made.getExceptionTypes()));
        }
        for (Method method : ThornCores.class.getDeclaredMethods()) {
            if (Modifier.isPublic(method.getModifiers())) {
                found.add(Modifier.toString(method.getModifiers()) + " " + method.getReturnType().getSimpleName()
                        + " " + method.getName() + ends(method.getParameterTypes(), method.getExceptionTypes()));
            }
        }
        return found;
    }

    private static String ends(Class<?>[] parameters, Class<?>[] exceptions) {
        return "(" + names(parameters) + ")" + (exceptions.length == 0 ? "" : " throws " + names(exceptions)) + ";";
    }

    private static String names(Class<?>[] classes) {
        return Arrays.stream(classes).map(Class::getSimpleName).collect(Collectors.joining(", "));
    }

    private static void nothingElse() {
        for (Method method : ThornCores.class.getDeclaredMethods()) {
            boolean hidden = Modifier.isPrivate(method.getModifiers()) || method.isSynthetic();
            boolean open = Modifier.isPublic(method.getModifiers());
            Check.same("method " + method.getName(), "true", String.valueOf(hidden || open));
        }
        for (Field field : ThornCores.class.getDeclaredFields()) {
            Check.same("field " + field.getName(), "true", String.valueOf(Modifier.isPrivate(field.getModifiers())));
        }
        for (Class<?> inside : ThornCores.class.getDeclaredClasses()) {
            Check.same("class " + inside.getName(), "true", String.valueOf(Modifier.isPrivate(inside.getModifiers())));
        }
    }
}
