import java.lang.reflect.Constructor;
import java.lang.reflect.Field;
import java.lang.reflect.Method;
import java.lang.reflect.Modifier;
import java.nio.file.Files;
import java.nio.file.Path;
import java.util.ArrayList;
import java.util.List;
import java.util.Map;
import java.util.Set;
import java.util.TreeMap;
import java.util.TreeSet;
import java.util.regex.Matcher;
import java.util.regex.Pattern;

/** That the class keeps to what LANGUAGE.md leaves, as far as its text and its shape can tell. */
public final class LanguageTest {
    private static final String[] RULED_OUT = {
        "\\bthrow\\b", "\\bthrows\\b", "\\btry\\b", "\\bcatch\\b", "\\bsynchronized\\b", "\\bassert\\b",
        "->", "::", "\\bpackage\\b", "\\bstatic\\s*\\{", "\\bdouble\\b", "\\bfloat\\b", "\\bprotected\\b",
        "Exact\\b", "\\bSystem\\.(?!arraycopy\\b)", "\\bArrays\\.(?!(copyOf|copyOfRange|fill)\\b)",
        "\\bMath\\.(?!(min|max|abs|floorDiv|floorMod)\\b)", "\\bInteger\\.(?!(bitCount|compare|max|min)\\()",
        "\\bequals\\b", "\\bhashCode\\b", "\\btoString\\b"
    };
    private static final int MOST_CLASSES = 12, MOST_FIELDS = 20, MOST_PARAMETERS = 7;
    private static final int LONGEST_METHOD = 60, DEEPEST_CALL = 8;
    private static final Pattern METHOD =
            Pattern.compile("^((?: {4}){1,2})(?:(?:public|private|static|final) )*+[\\w\\[\\]]+ (\\w+)\\([^)]*\\) \\{$");

    public static void main(String[] args) throws Exception {
        String text = Files.readString(Path.of("src/main/java/GhostSigns.java"));
        String code = text.replaceAll("(?s)/\\*.*?\\*/", " ").replaceAll("//[^\n]*", " ");
        for (String shape : RULED_OUT) {
            Checks.due("ruled out: " + shape, times(shape, code), 0);
        }
        Checks.due("imports", times("\\bimport\\b", code), times("\\bimport java\\.util\\.Arrays;", code));
        List<Class<?>> classes = new ArrayList<>(List.of(GhostSigns.class));
        classes.addAll(List.of(GhostSigns.class.getDeclaredClasses()));
        atMost("classes", classes.size(), MOST_CLASSES);
        Checks.due("classes in the text", times("\\bclass\\s+\\w+", code), classes.size());
        for (Class<?> one : classes) {
            shapeOf(one);
        }
        methods(text, classes);
        Checks.finish();
    }

    private static int times(String shape, String code) {
        Matcher at = Pattern.compile(shape).matcher(code);
        int sum = 0;
        while (at.find()) {
            sum++;
        }
        return sum;
    }

    private static void atMost(String what, int got, int most) {
        Checks.due(what + ": " + got + " are at most " + most, got <= most ? 1 : 0, 1);
    }

    /** Rules 1, 5 and 11 of one class: its fields, parameters and names. */
    private static void shapeOf(Class<?> one) {
        int fields = 0;
        for (Field field : one.getDeclaredFields()) {
            if (Modifier.isStatic(field.getModifiers())) {
                Checks.due(field + " is final", field.getModifiers() & Modifier.FINAL, Modifier.FINAL);
                Checks.due(field + " is an int", field.getType() == int.class ? 1 : 0, 1);
            } else {
                fields++;
            }
        }
        atMost("fields of " + one, fields, MOST_FIELDS);
        for (Constructor<?> made : one.getDeclaredConstructors()) {
            atMost("parameters of " + made, made.getParameterCount(), MOST_PARAMETERS);
        }
        Set<String> face = publicNames();
        for (Method method : one.getDeclaredMethods()) {
            atMost("parameters of " + method, method.getParameterCount(), MOST_PARAMETERS);
            boolean named = one != GhostSigns.class && face.contains(method.getName());
            Checks.due(method + " bears a public name", named ? 1 : 0, 0);
        }
    }

    private static Set<String> publicNames() {
        Set<String> names = new TreeSet<>();
        for (Method method : GhostSigns.class.getDeclaredMethods()) {
            if (Modifier.isPublic(method.getModifiers())) {
                names.add(method.getName());
            }
        }
        return names;
    }

    /** Rules 8 and 11: no method is long, none calls itself by way of any, and calls do not go deep. */
    private static void methods(String text, List<Class<?>> classes) {
        Map<String, StringBuilder> bodies = new TreeMap<>();
        int found = 0;
        String[] lines = text.split("\n");
        for (int i = 0; i < lines.length; i++) {
            Matcher head = METHOD.matcher(lines[i]);
            if (!head.matches()) {
                continue;
            }
            found++;
            StringBuilder body = bodies.computeIfAbsent(head.group(2), name -> new StringBuilder());
            int end = i + 1;
            while (end < lines.length && !lines[end].equals(head.group(1) + "}")) {
                body.append(lines[end]).append('\n');
                end++;
            }
            atMost("lines of " + head.group(2), end - i + 1, LONGEST_METHOD);
        }
        int declared = 0;
        for (Class<?> one : classes) {
            declared += one.getDeclaredMethods().length;
        }
        Checks.due("methods found in the text", found, declared);
        for (String name : bodies.keySet()) {
            atMost("calls that stand open from " + name + " on", depthOf(name, bodies, 1), DEEPEST_CALL);
        }
    }

    /** How deep calls go; methods of one name are taken for one, so this is never too little. */
    private static int depthOf(String name, Map<String, StringBuilder> bodies, int above) {
        int deepest = above;
        if (above > DEEPEST_CALL) {
            return deepest;
        }
        Matcher call = Pattern.compile("\\b(\\w+)\\(").matcher(bodies.get(name));
        while (call.find()) {
            if (bodies.containsKey(call.group(1))) {
                deepest = Math.max(deepest, depthOf(call.group(1), bodies, above + 1));
            }
        }
        return deepest;
    }
}
