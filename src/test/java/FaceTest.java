import java.lang.reflect.Constructor;
import java.lang.reflect.Field;
import java.lang.reflect.Method;
import java.lang.reflect.Modifier;
import java.nio.file.Files;
import java.nio.file.Path;
import java.util.Arrays;
import java.util.List;
import java.util.Set;
import java.util.TreeSet;
import java.util.regex.Pattern;
import java.util.stream.Collectors;

/** The public face of the document, and those rules of LANGUAGE.md that can be seen from outside. */
final class FaceTest {
    private static final Class<?> FACE = QuantisedLists.class;
    private static final Set<String> METHODS = new TreeSet<>(List.of(
            "boolean turn(int, int, int, int)", "boolean sample(int, int, int, int)",
            "int train(int, int, int, int)", "int centre(int, int)", "int word(int, int, int)",
            "int add(int, int, int, int, int)", "boolean remove(int)", "int listOf(int)", "int codeOf(int)",
            "int entries(int)", "boolean effort(int, int)", "int search(int, int, int, int, int)", "int hit(int)",
            "int far(int)", "int scanned()", "int save()", "boolean alter(int, int)", "boolean cut(int)",
            "int byteAt(int)", "int load()"));

    public static void main(String[] args) throws Exception {
        constants();
        face();
        classesInside();
        Check.due("forbidden words", forbiddenWords(), "");
        Check.end();
    }

    private static void constants() {
        Check.due("NONE", QuantisedLists.NONE, -1);
        Check.due("ABSENT", QuantisedLists.ABSENT, -1000);
    }

    private static void face() {
        Check.due("the class is public and final",
                Modifier.isPublic(FACE.getModifiers()) && Modifier.isFinal(FACE.getModifiers()), true);
        Check.due("methods that are not private", shown(FACE), METHODS.toString());
        Set<String> fields = new TreeSet<>();
        for (Field field : FACE.getDeclaredFields()) {
            if (!Modifier.isPrivate(field.getModifiers())) {
                fields.add(Modifier.toString(field.getModifiers()) + " " + field.getType() + " " + field.getName());
            }
        }
        Check.due("fields that are not private", fields.toString(),
                "[public static final int ABSENT, public static final int NONE]");
        Constructor<?>[] constructors = FACE.getDeclaredConstructors();
        Check.due("constructors", constructors.length, 1);
        Check.due("the constructor", constructors[0].toString(), "public QuantisedLists()");
    }

    private static String shown(Class<?> type) {
        return Arrays.stream(type.getDeclaredMethods()).filter(m -> !Modifier.isPrivate(m.getModifiers()))
                .map(m -> (Modifier.isPublic(m.getModifiers()) ? "" : "not public ") + m.getReturnType() + " " + m.getName()
                        + Arrays.stream(m.getParameterTypes()).map(String::valueOf)
                                .collect(Collectors.joining(", ", "(", ")")))
                .collect(Collectors.toCollection(TreeSet::new)).toString();
    }

    private static void classesInside() {
        Set<String> names = METHODS.stream().map(m -> m.replaceAll("^\\w+ (\\w+)\\(.*", "$1"))
                .collect(Collectors.toSet());
        Check.due("at most twelve classes", FACE.getDeclaredClasses().length < 12, true);
        for (Class<?> type : FACE.getDeclaredClasses()) {
            Check.due(type + " is static", Modifier.isStatic(type.getModifiers()), true);
            lookAt(type);
            for (Method method : type.getDeclaredMethods()) {
                Check.due(method + " bears the name of a public one", names.contains(method.getName()), false);
            }
        }
        lookAt(FACE);
        for (Method method : FACE.getDeclaredMethods()) {
            Check.due(method + " bears the name of a public one",
                    Modifier.isPrivate(method.getModifiers()) && names.contains(method.getName()), false);
        }
    }

    private static void lookAt(Class<?> type) {
        int fields = 0;
        for (Field field : type.getDeclaredFields()) {
            boolean isStatic = Modifier.isStatic(field.getModifiers());
            fields += isStatic ? 0 : 1;
            Check.due(field + " is static and not final", isStatic && !Modifier.isFinal(field.getModifiers()), false);
        }
        Check.due(type + " has at most twenty fields", fields <= 20, true);
        for (Method method : type.getDeclaredMethods()) {
            Check.due(method + " has at most seven parameters", method.getParameterCount() <= 7, true);
        }
    }

    private static String forbiddenWords() throws Exception {
        String code = Files.readString(Path.of("src/main/java/QuantisedLists.java"))
                .replaceAll("(?s)/\\*.*?\\*/", "").replaceAll("//[^\n]*", "");
        Pattern forbidden = Pattern.compile("\\b(throw|throws|try|catch|finally|synchronized|assert|import|package|"
                + "volatile|native|transient|protected|Object|Thread|Random|Exact)\\b|->|::|\"|static \\{|System\\.");
        return forbidden.matcher(code).results().map(r -> r.group()).collect(Collectors.joining(" "));
    }
}
