import java.io.IOException;
import java.lang.reflect.Field;
import java.lang.reflect.Method;
import java.lang.reflect.Modifier;
import java.nio.file.Files;
import java.nio.file.Path;
import java.util.Arrays;
import java.util.TreeSet;
import java.util.regex.Matcher;
import java.util.regex.Pattern;

/** The public face, and those rules of LANGUAGE.md that can be read off class and source. */
public final class LanguageTest {
    private static final Path SOURCE = Path.of("src/main/java/NearBook.java");
    private static final String[] FACE = {
        "int thing(int)", "boolean value(int,int,int)", "boolean tell(int,int,int)",
        "boolean kind(int)", "int distance(int,int)", "int law()", "int three(int)",
        "boolean put(int)", "boolean drop(int)", "int has(int)", "int nearest(int,int)",
        "int within(int,int)", "int farthest(int,int)", "int result(int,int)",
        "int closest(int)", "int centres(int)", "int best(int)", "long chain(int)",
        "int pair(int,int)", "int clusters(int)", "int cluster(int,int)", "int net(int)",
        "long middle(int)", "int count(int)"
    };
    private static final String[] OUTSIDE = {
        "\\bthrow\\b", "\\bthrows\\b", "\\btry\\b", "\\bcatch\\b", "\\bsynchronized\\b", "\\bassert\\b",
        "->", "::", "Exact\\s*\\(", "\\bstatic\\s*\\{", "^package\\b", "\\bString\\b", "\\bdouble\\b",
        "\\bfloat\\b", "\\bSystem\\.(?!arraycopy\\b)", "\\bhashCode\\b", "\\btoString\\b", "\\bequals\\b",
        "\\bObject\\b", "\\bThread\\b", "\\bRandom\\b", "import (?!java\\.util\\.Arrays;)"
    };

    private static int wrong = 0;

    public static void main(String[] args) throws IOException {
        face();
        classesInside();
        source();
        System.out.println("LanguageTest: " + wrong + " faults");
        if (wrong != 0) {
            System.exit(1);
        }
    }

    private static void holds(boolean yes, String fault) {
        if (!yes) {
            wrong++;
            System.out.println(fault);
        }
    }

    private static void face() {
        int modifiers = NearBook.class.getModifiers();
        holds(Modifier.isPublic(modifiers) && Modifier.isFinal(modifiers), "the class is not public and final");
        holds(NearBook.class.getDeclaredConstructors().length == 1, "not one constructor");
        holds(NearBook.class.getConstructors().length == 1, "no public constructor");
        TreeSet<String> names = new TreeSet<>();
        TreeSet<String> due = new TreeSet<>(Arrays.asList(FACE));
        for (Method method : NearBook.class.getDeclaredMethods()) {
            if (Modifier.isPublic(method.getModifiers())) {
                names.add(method.getName());
                holds(due.remove(signature(method)), "not of the face: " + signature(method));
            }
        }
        holds(due.isEmpty(), "missing in the face: " + due);
        for (Method method : NearBook.class.getDeclaredMethods()) {
            if (!Modifier.isPublic(method.getModifiers())) {
                holds(Modifier.isPrivate(method.getModifiers()), "not private: " + method);
                holds(!names.contains(method.getName()), "has a public name: " + method);
            }
        }
        for (Field field : NearBook.class.getDeclaredFields()) {
            boolean isNone = field.getName().equals("NONE") && Modifier.isPublic(field.getModifiers());
            holds(isNone || Modifier.isPrivate(field.getModifiers()), "not private: " + field);
        }
    }

    private static void classesInside() {
        holds(NearBook.class.getDeclaredClasses().length < 12, "more than twelve classes");
        for (Class<?> inside : NearBook.class.getDeclaredClasses()) {
            holds(Modifier.isStatic(inside.getModifiers()), "not static: " + inside);
            holds(inside.getDeclaredFields().length <= 20, "more than twenty fields: " + inside);
            for (Method method : inside.getDeclaredMethods()) {
                holds(method.getParameterCount() <= 7, "more than seven parameters: " + method);
                holds(Arrays.stream(FACE).noneMatch(x -> x.contains(" " + method.getName() + "(")),
                    "has a public name: " + method);
            }
            for (Field field : inside.getDeclaredFields()) {
                boolean isConstant = !Modifier.isStatic(field.getModifiers())
                    || Modifier.isFinal(field.getModifiers());
                holds(isConstant, "static and not final: " + field);
            }
        }
    }

    private static String signature(Method method) {
        String parameters = Arrays.toString(method.getParameterTypes());
        String list = parameters.substring(1, parameters.length() - 1).replace(", ", ",");
        return method.getReturnType() + " " + method.getName() + "(" + list + ")";
    }

    private static void source() throws IOException {
        String text = Files.readString(SOURCE);
        String code = text.replaceAll("(?s)/\\*.*?\\*/", "").replaceAll("//[^\n]*", "");
        for (String outside : OUTSIDE) {
            Matcher found = Pattern.compile(outside, Pattern.MULTILINE).matcher(code);
            holds(!found.find(), "outside the language: " + outside);
        }
        Matcher method = Pattern.compile("(?ms)^( {4}| {8})\\w[^\n;=]*\\) \\{\n.*?^\\1}$").matcher(text);
        int methods = 0;
        while (method.find()) {
            methods++;
            long lines = method.group().lines().count();
            holds(lines <= 60, "of " + lines + " lines: " + method.group().lines().findFirst().get());
        }
        holds(methods > FACE.length, "methods found in the source: " + methods);
    }
}
