import java.lang.reflect.Constructor;
import java.lang.reflect.Field;
import java.lang.reflect.Method;
import java.lang.reflect.Modifier;
import java.nio.file.Files;
import java.nio.file.Path;
import java.util.Arrays;
import java.util.HashSet;
import java.util.List;
import java.util.Map;
import java.util.Set;
import java.util.TreeMap;
import java.util.TreeSet;
import java.util.regex.MatchResult;
import java.util.regex.Matcher;
import java.util.regex.Pattern;
import java.util.stream.Collectors;
import java.util.stream.Stream;

/** The public face of the document, and those rules of LANGUAGE.md that can be seen in the class and in its text. */
final class FaceTest {
    private static final Class<?> FACE = QuantisedLists.class;
    private static final Set<String> METHODS = new TreeSet<>(List.of(
            "boolean turn(int, int, int, int)", "boolean sample(int, int, int, int)",
            "int train(int, int, int, int)", "int centre(int, int)", "int word(int, int, int)",
            "int add(int, int, int, int, int)", "boolean remove(int)", "int listOf(int)", "int codeOf(int)",
            "int entries(int)", "boolean effort(int, int)", "int search(int, int, int, int, int)", "int hit(int)",
            "int far(int)", "int scanned()", "int save()", "boolean alter(int, int)", "boolean cut(int)",
            "int byteAt(int)", "int load()"));

    public static void main(String[] args) throws Exception {
        constants();
        face();
        classesInside();
        String code = code();
        Check.due("files of the program", filesOfTheProgram(), "QuantisedLists.java");
        Check.due("forbidden words", forbiddenWords(code), "");
        Check.due("names from outside", namesFromOutside(code), "[Math.abs, Math.floorDiv, Math.max, Math.min]");
        lengthsAndDepths(code);
        Check.end();
    }

    private static void constants() {
        Check.due("NONE", QuantisedLists.NONE, -1);
        Check.due("ABSENT", QuantisedLists.ABSENT, -1000);
    }

    private static void face() {
        Check.due("the class is public and final",
                Modifier.isPublic(FACE.getModifiers()) && Modifier.isFinal(FACE.getModifiers()), true);
        Check.due("methods that are not private", shown(FACE), METHODS.toString());
        Set<String> fields = new TreeSet<>();
        for (Field field : FACE.getDeclaredFields()) {
            if (!Modifier.isPrivate(field.getModifiers())) {
                fields.add(Modifier.toString(field.getModifiers()) + " " + field.getType() + " " + field.getName());
            }
        }
        Check.due("fields that are not private", fields.toString(),
                "[public static final int ABSENT, public static final int NONE]");
        Constructor<?>[] constructors = FACE.getDeclaredConstructors();
        Check.due("constructors", constructors.length, 1);
        Check.due("the constructor", constructors[0].toString(), "public QuantisedLists()");
    }

    private static String shown(Class<?> type) {
        return Arrays.stream(type.getDeclaredMethods()).filter(m -> !Modifier.isPrivate(m.getModifiers()))
                .map(m -> (Modifier.isPublic(m.getModifiers()) ? "" : "not public ") + m.getReturnType() + " "
                        + m.getName() + Arrays.stream(m.getParameterTypes()).map(String::valueOf)
                                .collect(Collectors.joining(", ", "(", ")")))
                .collect(Collectors.toCollection(TreeSet::new)).toString();
    }

    private static void classesInside() {
        Set<String> names = METHODS.stream().map(m -> m.replaceAll("^\\w+ (\\w+)\\(.*", "$1"))
                .collect(Collectors.toSet());
        Check.due("at most twelve classes", FACE.getDeclaredClasses().length < 12, true);
        for (Class<?> type : FACE.getDeclaredClasses()) {
            Check.due(type + " is static", Modifier.isStatic(type.getModifiers()), true);
            lookAt(type);
            for (Method method : type.getDeclaredMethods()) {
                Check.due(method + " bears the name of a public one", names.contains(method.getName()), false);
            }
        }
        lookAt(FACE);
        for (Method method : FACE.getDeclaredMethods()) {
            Check.due(method + " bears the name of a public one",
                    Modifier.isPrivate(method.getModifiers()) && names.contains(method.getName()), false);
        }
    }

    private static void lookAt(Class<?> type) {
        int fields = 0;
        for (Field field : type.getDeclaredFields()) {
            boolean isStatic = Modifier.isStatic(field.getModifiers());
            fields += isStatic ? 0 : 1;
            Check.due(field + " is static and not final", isStatic && !Modifier.isFinal(field.getModifiers()), false);
        }
        Check.due(type + " has at most twenty fields", fields <= 20, true);
        for (Method method : type.getDeclaredMethods()) {
            Check.due(method + " has at most seven parameters", method.getParameterCount() <= 7, true);
        }
    }

    /** The text of the program without its comments. */
    private static String code() throws Exception {
        return Files.readString(Path.of("src/main/java/QuantisedLists.java"))
                .replaceAll("(?s)/\\*.*?\\*/", "").replaceAll("//[^\n]*", "");
    }

    private static String filesOfTheProgram() throws Exception {
        try (Stream<Path> all = Files.walk(Path.of("src/main"))) {
            return all.filter(Files::isRegularFile).map(p -> p.getFileName().toString())
                    .collect(Collectors.joining(" "));
        }
    }

    /** Rules 1, 3, 4, 6 and 13. */
    private static String forbiddenWords(String code) {
        Pattern forbidden = Pattern.compile("\\b(throw|throws|try|catch|finally|synchronized|assert|import|package|"
                + "volatile|native|transient|protected|Object|Thread|Random|Exact|double|float|goto|strictfp)\\b"
                + "|->|::|\"|static \\{|System\\.|\\[\\]\\[\\]\\[\\]");
        return forbidden.matcher(code).results().map(MatchResult::group).collect(Collectors.joining(" "));
    }

    /** Rule 4: what stands before a dot and begins with a capital letter is a class of our own, or is named here. */
    private static String namesFromOutside(String code) {
        Set<String> own = Arrays.stream(FACE.getDeclaredClasses()).map(Class::getSimpleName)
                .collect(Collectors.toSet());
        return Pattern.compile("\\b([A-Z]\\w*)\\.(\\w+)").matcher(code).results().filter(r -> !own.contains(r.group(1)))
                .map(MatchResult::group).collect(Collectors.toCollection(TreeSet::new)).toString();
    }

    /** Rules 8 and 11; methods of the same name are taken for one, which makes no depth less than it is. */
    private static void lengthsAndDepths(String code) {
        Map<String, Set<String>> calls = new TreeMap<>();
        Matcher method = Pattern.compile("(?ms)^((?: {4}){1,2})(?:\\w+ )+?(?:\\w+(?:\\[\\])* )?(\\w+)\\([^)]*\\) \\{$"
                + "(.*?)^\\1\\}").matcher(code);
        while (method.find()) {
            Check.due(method.group(2) + " has at most sixty lines", method.group().lines().count() <= 60, true);
            Set<String> called = calls.computeIfAbsent(method.group(2), name -> new TreeSet<>());
            Pattern.compile("(\\w+)\\(").matcher(method.group(3)).results().forEach(r -> called.add(r.group(1)));
        }
        for (String m : METHODS) {
            String name = m.replaceAll("^\\w+ (\\w+)\\(.*", "$1");
            Check.due("there is a text of " + name, calls.containsKey(name), true);
            Check.due(name + " goes at most eight deep", depth(name, calls, new HashSet<>()) <= 8, true);
        }
    }

    /** How many calls stand open at once; a thousand when a method calls itself. */
    private static int depth(String name, Map<String, Set<String>> calls, Set<String> open) {
        if (!open.add(name)) {
            return 1000;
        }
        int most = 0;
        for (String called : calls.get(name)) {
            most = Math.max(most, calls.containsKey(called) ? depth(called, calls, open) : 0);
        }
        open.remove(name);
        return most + 1;
    }
}
