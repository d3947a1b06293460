import java.io.IOException;
import java.lang.reflect.Constructor;
import java.lang.reflect.Field;
import java.lang.reflect.Method;
import java.lang.reflect.Modifier;
import java.nio.file.Files;
import java.nio.file.Path;
import java.util.Arrays;
import java.util.LinkedHashMap;
import java.util.Map;
import java.util.Set;
import java.util.TreeSet;
import java.util.regex.Matcher;
import java.util.regex.Pattern;
import java.util.stream.Collectors;

/** The public face, and those rules of the language that can be seen in the text or in the compiled class. */
public final class RulesTest {
    private static final String SOURCE = "src/main/java/HiddenRows.java";
    private static final Path DOCUMENT = Path.of("../shared/DOC.md");
    private static final String[] FACE = {
        "int state()", "int weight(int,int,int)", "int move(int,int,int)", "int kind()", "int rule(int,int,int,int)",
        "int leaf(int,int,int)", "int sign(int)", "int clear()", "int hold(int,int)", "long total()", "int ways()",
        "long share(int,int,int)", "long begin(int,int,int)", "long pair(int,int,int,int)", "int top(int)",
        "long best(int)", "int bestAt(int,int)", "long drawn(int)", "int drawnAt(int)", "long trees(int)",
        "long treeCount(int)", "long treeBest(int)", "int treeAt(int,int)", "long span(int,int,int,int,int)"
    };
    private static final String[] FORBIDDEN = {
        "\\bthrow\\b", "\\btry\\b", "\\bcatch\\b", "\\bsynchronized\\b", "\\bassert\\b", "\\bimport\\b", "\\bpackage\\b",
        "->", "::", "Exact\\b", "\\bhashCode\\b", "\\btoString\\b"
    };
    /** Of the library the class uses these alone. */
    private static final Set<String> LIBRARY = Set.of("Math.max", "Math.min");
    private static final Pattern METHOD = Pattern.compile(
        "(?m)^ +(?:public |private |static |final )*(?:int|long|boolean|void|WayList) (\\w+)\\([^)]*\\) \\{$");
    private static final int LONGEST_METHOD = 60;
    private static final int DEEPEST_CALLS = 8;
    private static int wrong = 0;

    private static void complain(String text) {
        wrong++;
        System.out.println(text);
    }

    public static void main(String[] args) throws IOException {
        checkFace();
        checkFaceOfDocument();
        checkStaticFields(HiddenRows.class);
        Class<?>[] inside = HiddenRows.class.getDeclaredClasses();
        for (Class<?> each : inside) {
            checkInside(each);
        }
        if (inside.length > 11) {
            complain("too many classes: " + inside.length);
        }
        String code = withoutComments(Files.readString(Path.of(SOURCE)));
        checkWords(code);
        checkLibrary(code);
        checkMade(code);
        checkMethods(bodiesOf(code));
        System.out.println(wrong == 0 ? "the rules are kept" : wrong + " rules are not kept");
        if (wrong != 0) {
            System.exit(1);
        }
    }

    private static void checkFace() {
        Set<String> seen = new TreeSet<>();
        Set<String> publicNames = new TreeSet<>();
        for (Method method : HiddenRows.class.getDeclaredMethods()) {
            if (!Modifier.isPrivate(method.getModifiers())) {
                seen.add(faceOf(method));
                publicNames.add(method.getName());
            }
        }
        if (!seen.equals(new TreeSet<>(Arrays.asList(FACE)))) {
            complain("the face is " + seen);
        }
        for (Method method : HiddenRows.class.getDeclaredMethods()) {
            if (Modifier.isPrivate(method.getModifiers()) && publicNames.contains(method.getName())) {
                complain("private and public: " + method.getName());
            }
        }
        Constructor<?>[] constructors = HiddenRows.class.getDeclaredConstructors();
        if (constructors.length != 1 || constructors[0].getParameterCount() != 0) {
            complain("not one constructor without arguments");
        }
        for (Field field : HiddenRows.class.getDeclaredFields()) {
            if (!Modifier.isPrivate(field.getModifiers())) {
                complain("not private: " + field.getName());
            }
        }
        if (!Modifier.isFinal(HiddenRows.class.getModifiers())) {
            complain("the class is not final");
        }
    }

    private static String faceOf(Method method) {
        return method.getReturnType().getName() + " " + method.getName() + Arrays.stream(method.getParameterTypes())
            .map(Class::getName).collect(Collectors.joining(",", "(", ")"));
    }

    private static void checkFaceOfDocument() throws IOException {
        if (!Files.isReadable(DOCUMENT)) {
            System.out.println("the face is not compared: there is no " + DOCUMENT);
            return;
        }
        Set<String> asked = new TreeSet<>();
        Matcher calls = Pattern.compile("(?m)^    public (\\w+ \\w+)\\((.*)\\);$").matcher(Files.readString(DOCUMENT));
        while (calls.find()) {
            asked.add(calls.group(1) + "(" + calls.group(2).replaceAll("(\\w+) \\w+", "$1").replace(" ", "") + ")");
        }
        if (!asked.equals(new TreeSet<>(Arrays.asList(FACE)))) {
            complain("the document's face is " + asked);
        }
    }

    private static void checkInside(Class<?> inside) {
        checkStaticFields(inside);
        int modifiers = inside.getModifiers();
        if (!Modifier.isStatic(modifiers) || Modifier.isPublic(modifiers) || Modifier.isProtected(modifiers)) {
            complain("not static, or seen from outside: " + inside);
        }
        for (Method method : inside.getDeclaredMethods()) {
            if (method.getParameterCount() > 7) {
                complain("too many parameters: " + method);
            }
            if (Arrays.stream(FACE).anyMatch(face -> face.contains(" " + method.getName() + "("))) {
                complain("bears the name of a public one: " + method);
            }
        }
    }

    private static void checkStaticFields(Class<?> owner) {
        int own = 0;
        for (Field field : owner.getDeclaredFields()) {
            if (!Modifier.isStatic(field.getModifiers())) {
                own++;
            } else if (!Modifier.isFinal(field.getModifiers())) {
                complain("static and not final: " + field);
            }
        }
        if (own > 20) {
            complain("too many fields: " + owner);
        }
    }

    /** The lines stay, so that methods keep their length. */
    private static String withoutComments(String text) {
        Matcher comments = Pattern.compile("(?s)/\\*.*?\\*/").matcher(text);
        return comments.replaceAll(each -> each.group().replaceAll("[^\n]", "")).replaceAll("//.*", "");
    }

    private static void checkWords(String code) {
        for (String each : FORBIDDEN) {
            Matcher matcher = Pattern.compile(each).matcher(code);
            if (matcher.find()) {
                complain("not allowed: " + matcher.group());
            }
        }
    }

    /** A name with a great and a small letter is that of a class, of the file's own or of the library. */
    private static void checkLibrary(String code) {
        Set<String> own = new TreeSet<>(Set.of("HiddenRows"));
        for (Class<?> each : HiddenRows.class.getDeclaredClasses()) {
            own.add(each.getSimpleName());
        }
        Matcher names = Pattern.compile("\\b([A-Z]\\w*[a-z]\\w*)(\\.\\w+)?").matcher(code);
        while (names.find()) {
            if (!own.contains(names.group(1)) && !LIBRARY.contains(names.group())) {
                complain("not of the file, nor of the library that it uses: " + names.group());
            }
        }
    }

    private static void checkMade(String code) {
        for (String line : code.split("\n")) {
            boolean makes = line.contains("new ");
            boolean inConstructor = line.matches("        \\w+ = new \\w+\\(.*") || line.contains("ends[i] = new WayList()");
            if (makes && !inConstructor && !line.contains("final ")) {
                complain("makes an object in a call: " + line.trim());
            }
        }
    }

    /** Methods of one name in several classes count as one, with all that any of them calls. */
    private static Map<String, String> bodiesOf(String code) {
        Map<String, String> bodies = new LinkedHashMap<>();
        Matcher methods = METHOD.matcher(code);
        while (methods.find()) {
            String indent = methods.group().replaceAll("\\S.*", "");
            int end = code.indexOf("\n" + indent + "}", methods.end());
            String body = code.substring(methods.end(), end);
            if (body.split("\n").length > LONGEST_METHOD) {
                complain("too long: " + methods.group(1));
            }
            bodies.merge(methods.group(1), body, String::concat);
        }
        return bodies;
    }

    private static void checkMethods(Map<String, String> bodies) {
        for (String face : FACE) {
            String name = face.replaceAll(".* |\\(.*", "");
            if (!bodies.containsKey(name)) {
                complain("not seen in the text: " + name);
            } else if (depthOf(name, bodies, 1) > DEEPEST_CALLS) {
                complain("calls go too deep, or round: " + name);
            }
        }
    }

    /** What goes round comes to be too deep. */
    private static int depthOf(String name, Map<String, String> bodies, int depth) {
        int deepest = depth;
        Matcher calls = Pattern.compile("\\b(\\w+)\\(").matcher(bodies.get(name));
        while (deepest <= DEEPEST_CALLS && calls.find()) {
            if (bodies.containsKey(calls.group(1))) {
                deepest = Math.max(deepest, depthOf(calls.group(1), bodies, depth + 1));
            }
        }
        return deepest;
    }
}
