import java.io.IOException;
import java.lang.reflect.Constructor;
import java.lang.reflect.Field;
import java.lang.reflect.Method;
import java.lang.reflect.Modifier;
import java.nio.file.Files;
import java.nio.file.Path;
import java.util.Arrays;
import java.util.List;
import java.util.TreeSet;
import java.util.stream.Collectors;

/** The public face, and the rules of the language that can be seen from outside or from single words. */
public final class FaceTest {
    private static final String NO_INDEX = " IndexOutOfBoundsException";
    private static final String NO_ARGUMENT = " IllegalArgumentException";
    private static final List<String> FACE = List.of(
            "boolean edge(int,int,int)" + NO_ARGUMENT,
            "boolean cut(int,int,int)" + NO_ARGUMENT,
            "void tag(int,int,boolean)" + NO_ARGUMENT,
            "int feed(long,int)" + NO_ARGUMENT,
            "int load(int)" + NO_INDEX,
            "int reach(int,int,boolean)" + NO_INDEX + NO_ARGUMENT,
            "int distance(int,int,int)" + NO_INDEX + NO_ARGUMENT,
            "int span(int)" + NO_INDEX,
            "int pairs(int,int,int)" + NO_INDEX + NO_ARGUMENT,
            "int circle(int)" + NO_INDEX,
            "int best(int)" + NO_INDEX,
            "int count(int)");
    private static final List<String> NOT_IN_THE_LANGUAGE = List.of("->", "::", "finally", "synchronized",
            "assert", "package ", "protected", "System.", "hashCode", "toString", "Exact(", "while (true",
            "for (;;", "try ", "catch ", "@");

    private FaceTest() {
    }

    public static void main(String[] args) throws IOException {
        classIsAsTold();
        methodsAreAsTold();
        insideIsHidden();
        sourceKeepsToTheLanguage(Path.of(args[0], "src", "main", "java"));
        Check.end();
    }

    private static void classIsAsTold() {
        Check.due("modifiers", "public final", Modifier.toString(PathDesk.class.getModifiers()));
        Constructor<?>[] constructors = PathDesk.class.getDeclaredConstructors();
        Check.due("constructors", 1, () -> constructors.length);
        Check.due("its form", "public PathDesk()", constructors[0].toString());
        String fields = Arrays.stream(PathDesk.class.getDeclaredFields())
                .filter(field -> !Modifier.isPrivate(field.getModifiers()))
                .map(Field::toString).collect(Collectors.joining());
        Check.due("fields", "public static final int PathDesk.NONE", fields);
    }

    private static void methodsAreAsTold() {
        TreeSet<String> seen = new TreeSet<>();
        for (Method method : PathDesk.class.getDeclaredMethods()) {
            if (!Modifier.isPrivate(method.getModifiers())) {
                Check.due("modifiers of " + method.getName(), "public", Modifier.toString(method.getModifiers()));
                seen.add(form(method));
            }
        }
        Check.due("methods", new TreeSet<>(FACE).toString(), seen.toString());
    }

    private static String form(Method method) {
        String parameters = Arrays.stream(method.getParameterTypes())
                .map(Class::getSimpleName).collect(Collectors.joining(",", "(", ")"));
        String thrown = Arrays.stream(method.getExceptionTypes())
                .map(type -> " " + type.getSimpleName()).collect(Collectors.joining());
        return method.getReturnType() + " " + method.getName() + parameters + thrown;
    }

    private static void insideIsHidden() {
        TreeSet<String> face = new TreeSet<>();
        for (String form : FACE) {
            face.add(form.substring(form.indexOf(' ') + 1, form.indexOf('(')));
        }
        for (Class<?> inside : PathDesk.class.getDeclaredClasses()) {
            int modifiers = inside.getModifiers();
            Check.due(inside + " is static", true, Modifier.isStatic(modifiers));
            Check.due(inside + " is hidden", false, Modifier.isPublic(modifiers) || Modifier.isProtected(modifiers));
            for (Method method : inside.getDeclaredMethods()) {
                Check.due(method + " has a name of the face", false, face.contains(method.getName()));
            }
            for (Field field : inside.getDeclaredFields()) {
                Check.due(field + " is static and changes", false,
                        Modifier.isStatic(field.getModifiers()) && !Modifier.isFinal(field.getModifiers()));
            }
        }
    }

    private static void sourceKeepsToTheLanguage(Path folder) throws IOException {
        try (var files = Files.list(folder)) {
            Check.due("files", 1, files::count);
        }
        List<String> lines = Files.readAllLines(folder.resolve("PathDesk.java"));
        String imports = lines.stream().filter(line -> line.startsWith("import ")).collect(Collectors.joining());
        Check.due("imports", "import java.util.Arrays;", imports);
        String code = lines.stream().map(String::strip)
                .filter(line -> !line.startsWith("*") && !line.startsWith("/")).collect(Collectors.joining("\n"));
        for (String word : NOT_IN_THE_LANGUAGE) {
            Check.due("the source has " + word, false, code.contains(word));
        }
    }
}
