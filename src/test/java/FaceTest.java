import java.lang.reflect.Constructor;
import java.lang.reflect.Field;
import java.lang.reflect.Method;
import java.lang.reflect.Modifier;
import java.nio.file.Files;
import java.nio.file.Path;
import java.util.Arrays;
import java.util.Set;
import java.util.TreeSet;
import java.util.regex.Matcher;
import java.util.regex.Pattern;
import java.util.stream.Collectors;

/** The public face is the document's, word for word, and nothing else is to be seen from outside. */
public final class FaceTest {
    private static final Pattern HEAD = Pattern.compile("public (?:int|boolean|float) \\w+\\([^{]*\\)[^{]*");
    private static final Pattern PROMISE = Pattern.compile("## Promise \\d+: .*\n\n`([^`]*)`");
    private static final Pattern GROUP = Pattern.compile("Ahead of the calls (.*) the interface says: (.*)\\.");

    private static String document;
    private static String source;

    public static void main(String[] args) throws Exception {
        document = Files.readString(Path.of("../shared/DOC.md"));
        source = Files.readString(Path.of("src/main/java/ThornCores.java"));
        Check.same("face", String.join("\n", documentFace()), String.join("\n", classFace()));
        Check.same("class", "public final", Modifier.toString(ThornCores.class.getModifiers()));
        nothingElse();
        Check.same("heads", block(), "public ThornCores();\n" + heads());
        promises();
        groups();
        Check.finish();
    }

    /** The lines of the document's code block, as the source writes them: NoSuchElementException is imported there. */
    private static String block() {
        return face().lines().filter(line -> line.endsWith(";")).map(FaceTest::plain).collect(Collectors.joining("\n"));
    }

    private static String plain(String head) {
        return head.trim().replace("java.util.", "");
    }

    /** The heads of the public methods in the order of the source, each on one line. */
    private static String heads() {
        return HEAD.matcher(source).results().map(found -> found.group().trim().replaceAll("\\s+", " ") + ";")
                .collect(Collectors.joining("\n"));
    }

    private static void promises() {
        Matcher promise = PROMISE.matcher(document);
        String heads = "public ThornCores();\n" + heads() + "\n";
        int found = 0;
        while (promise.find()) {
            String head = "public " + plain(promise.group(1)) + ";";
            Check.same("promise of " + head, "true", String.valueOf(heads.contains(head + "\n")));
            found++;
        }
        Check.same("promises", "36", String.valueOf(found));
    }

    /** The comments of the face, each ahead of the calls that the document names with it, and of no others. */
    private static void groups() {
        Matcher group = GROUP.matcher(document);
        int found = 0;
        while (group.find()) {
            int start = source.indexOf("// " + group.group(2) + "\n");
            Check.same("comment " + group.group(2), "true", String.valueOf(start >= 0));
            int end = source.indexOf("// ----", start + 1);
            String calls = HEAD.matcher(source.substring(Math.max(0, start), end)).results()
                    .map(head -> "`" + head.group().replaceAll("\\(.*", "").replaceAll(".* ", "").trim() + "`")
                    .collect(Collectors.joining(", "));
            Check.same("calls behind " + group.group(2), group.group(1), calls);
            found++;
        }
        Check.same("groups of calls", "7", String.valueOf(found));
    }

    private static String face() {
        Matcher face = Pattern.compile("```java\n(.*?)```", Pattern.DOTALL).matcher(document);
        return face.find() ? face.group(1) : "no face found in the document;";
    }

    private static Set<String> documentFace() {
        Set<String> found = new TreeSet<>();
        for (String line : face().split("\n")) {
            if (line.endsWith(";")) {
                found.add(line.trim().replace("java.util.", "").replaceAll("(int|char) \\w+([,)])", "$1$2"));
            }
        }
        return found;
    }

    private static Set<String> classFace() {
        Set<String> found = new TreeSet<>();
        for (Constructor<?> made : ThornCores.class.getConstructors()) {
            found.add("public ThornCores" + ends(made.getParameterTypes(), made.getExceptionTypes()));
        }
        for (Method method : ThornCores.class.getDeclaredMethods()) {
            if (Modifier.isPublic(method.getModifiers())) {
                found.add(Modifier.toString(method.getModifiers()) + " " + method.getReturnType().getSimpleName()
                        + " " + method.getName() + ends(method.getParameterTypes(), method.getExceptionTypes()));
            }
        }
        return found;
    }

    private static String ends(Class<?>[] parameters, Class<?>[] exceptions) {
        return "(" + names(parameters) + ")" + (exceptions.length == 0 ? "" : " throws " + names(exceptions)) + ";";
    }

    private static String names(Class<?>[] classes) {
        return Arrays.stream(classes).map(Class::getSimpleName).collect(Collectors.joining(", "));
    }

    private static void nothingElse() {
        for (Method method : ThornCores.class.getDeclaredMethods()) {
            boolean hidden = Modifier.isPrivate(method.getModifiers()) || method.isSynthetic();
            boolean open = Modifier.isPublic(method.getModifiers());
            Check.same("method " + method.getName(), "true", String.valueOf(hidden || open));
        }
        for (Field field : ThornCores.class.getDeclaredFields()) {
            Check.same("field " + field.getName(), "true", String.valueOf(Modifier.isPrivate(field.getModifiers())));
        }
        for (Class<?> inside : ThornCores.class.getDeclaredClasses()) {
            Check.same("class " + inside.getName(), "true", String.valueOf(Modifier.isPrivate(inside.getModifiers())));
        }
    }
}
