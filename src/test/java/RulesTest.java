import java.io.IOException;
import java.lang.reflect.Constructor;
import java.lang.reflect.Field;
import java.lang.reflect.Method;
import java.lang.reflect.Modifier;
import java.nio.file.Files;
import java.nio.file.Path;
import java.util.Arrays;
import java.util.Set;
import java.util.TreeSet;
import java.util.regex.Matcher;
import java.util.regex.Pattern;

/** The public face, and those rules of the language that can be seen in the text or in the compiled class. */
public final class RulesTest {
    private static final String SOURCE = "src/main/java/HiddenRows.java";
    private static final String[] FACE = {
        "int state()", "int weight(int,int,int)", "int move(int,int,int)", "int kind()", "int rule(int,int,int,int)",
        "int leaf(int,int,int)", "int sign(int)", "int clear()", "int hold(int,int)", "long total()", "int ways()",
        "long share(int,int,int)", "long begin(int,int,int)", "long pair(int,int,int,int)", "int top(int)",
        "long best(int)", "int bestAt(int,int)", "long drawn(int)", "int drawnAt(int)", "long trees(int)",
        "long treeCount(int)", "long treeBest(int)", "int treeAt(int,int)", "long span(int,int,int,int,int)"
    };
    private static final String[] FORBIDDEN = {
        "\\bthrow\\b", "\\btry\\b", "\\bcatch\\b", "\\bsynchronized\\b", "\\bassert\\b", "\\bimport\\b", "\\bpackage\\b",
        "->", "::", "Exact\\b", "\\bSystem\\b", "\\bRandom\\b", "\\bThread\\b", "\\bhashCode\\b", "\\btoString\\b"
    };
    private static int wrong = 0;

    private static void complain(String text) {
        wrong++;
        System.out.println(text);
    }

    public static void main(String[] args) throws IOException {
        checkFace();
        checkStaticFields(HiddenRows.class);
        Class<?>[] inside = HiddenRows.class.getDeclaredClasses();
        for (Class<?> each : inside) {
            checkInside(each);
        }
        if (inside.length > 12) {
            complain("too many classes: " + inside.length);
        }
        checkText(Files.readString(Path.of(SOURCE)));
        System.out.println(wrong == 0 ? "the rules are kept" : wrong + " rules are not kept");
        if (wrong != 0) {
            System.exit(1);
        }
    }

    private static void checkFace() {
        Set<String> seen = new TreeSet<>();
        Set<String> publicNames = new TreeSet<>();
        for (Method method : HiddenRows.class.getDeclaredMethods()) {
            if (!Modifier.isPrivate(method.getModifiers())) {
                seen.add(faceOf(method));
                publicNames.add(method.getName());
            }
        }
        if (!seen.equals(new TreeSet<>(Arrays.asList(FACE)))) {
            complain("the face is " + seen);
        }
        for (Method method : HiddenRows.class.getDeclaredMethods()) {
            if (Modifier.isPrivate(method.getModifiers()) && publicNames.contains(method.getName())) {
                complain("private and public: " + method.getName());
            }
        }
        Constructor<?>[] constructors = HiddenRows.class.getDeclaredConstructors();
        if (constructors.length != 1 || constructors[0].getParameterCount() != 0) {
            complain("not one constructor without arguments");
        }
        for (Field field : HiddenRows.class.getDeclaredFields()) {
            if (!Modifier.isPrivate(field.getModifiers())) {
                complain("not private: " + field.getName());
            }
        }
        if (!Modifier.isFinal(HiddenRows.class.getModifiers())) {
            complain("the class is not final");
        }
    }

    private static String faceOf(Method method) {
        StringBuilder text = new StringBuilder(method.getReturnType().getName()).append(' ').append(method.getName());
        text.append('(');
        for (int i = 0; i < method.getParameterCount(); i++) {
            text.append(i == 0 ? "" : ",").append(method.getParameterTypes()[i].getName());
        }
        return text.append(')').toString();
    }

    private static void checkInside(Class<?> inside) {
        checkStaticFields(inside);
        int modifiers = inside.getModifiers();
        if (!Modifier.isStatic(modifiers) || Modifier.isPublic(modifiers) || Modifier.isProtected(modifiers)) {
            complain("not static, or seen from outside: " + inside);
        }
        for (Method method : inside.getDeclaredMethods()) {
            if (method.getParameterCount() > 7) {
                complain("too many parameters: " + method);
            }
            if (Arrays.stream(FACE).anyMatch(face -> face.contains(" " + method.getName() + "("))) {
                complain("bears the name of a public one: " + method);
            }
        }
    }

    private static void checkStaticFields(Class<?> owner) {
        int own = 0;
        for (Field field : owner.getDeclaredFields()) {
            if (!Modifier.isStatic(field.getModifiers())) {
                own++;
            } else if (!Modifier.isFinal(field.getModifiers())) {
                complain("static and not final: " + field);
            }
        }
        if (own > 20) {
            complain("too many fields: " + owner);
        }
    }

    private static void checkText(String text) {
        String code = text.replaceAll("(?s)/\\*.*?\\*/", "").replaceAll("//.*", "");
        for (String each : FORBIDDEN) {
            Matcher matcher = Pattern.compile(each).matcher(code);
            if (matcher.find()) {
                complain("not allowed: " + matcher.group());
            }
        }
        for (String line : code.split("\n")) {
            boolean makes = line.contains("new ");
            boolean inConstructor = line.matches("        \\w+ = new \\w+\\(.*") || line.contains("ends[i] = new WayList()");
            if (makes && !inConstructor && !line.contains("final ")) {
                complain("makes an object in a call: " + line.trim());
            }
        }
    }
}
