import java.lang.reflect.Constructor;
import java.lang.reflect.Field;
import java.lang.reflect.Method;
import java.lang.reflect.Modifier;
import java.util.Set;
import java.util.TreeSet;

/** That the class has the document's face, and no other member that can be seen from outside. */
public final class FaceTest {
    private static final String[] METHODS = {
        "int letter(int,int)", "int sheet(int,int)", "int lay(int,int,int)", "int tear(int)",
        "int copy(int,int,int,int,int)", "int word(int)", "int firm(int,int,int,int,int)",
        "int slogan(int,int)", "int strike(int)", "int told(int,int)", "int mark(int,int)", "int mean()",
        "int see(int,int,int,int)", "int seen(int,int,int)", "int lack(int,int,int,int)",
        "int reading(int,int)", "int rivals(int,int)", "int layer(int,int,int,int)", "int bare(int)",
        "int layerTold(int,int,int)", "int faded(int)", "int two(int,int,int,int)",
        "int renumber(int,int,int)", "int number(int,int,int)", "int address(int,int)",
        "int span(int,boolean)", "int agrees(int)", "int light(int,int,int,int)", "int gain(int,int,int)",
        "int next(int,int)", "int read(int,int)", "int spread(int)", "int wall(int,int,boolean)",
        "int keep(int)", "int asked()", "int count(int)", "int finding()", "int findings(int)",
        "long digest()"
    };
    private static final String[] CONSTANTS = {"BAD", "FULL", "FINDING", "STATE", "SPENT", "NONE"};

    public static void main(String[] args) {
        Class<?> face = GhostSigns.class;
        Checks.due("public final", face.getModifiers(), Modifier.PUBLIC | Modifier.FINAL);
        methods(face);
        constants(face);
        Constructor<?>[] made = face.getDeclaredConstructors();
        Checks.due("one constructor", made.length, 1);
        Checks.due("its parameters", made[0].getParameterCount(), 0);
        for (Class<?> inside : face.getDeclaredClasses()) {
            int how = inside.getModifiers();
            Checks.due(inside + " is static", how & Modifier.STATIC, Modifier.STATIC);
            Checks.due(inside + " is not seen outside", how & (Modifier.PUBLIC | Modifier.PROTECTED), 0);
        }
        Checks.finish();
    }

    private static void methods(Class<?> face) {
        Set<String> due = new TreeSet<>(Set.of(METHODS));
        Set<String> names = new TreeSet<>();
        for (Method method : face.getDeclaredMethods()) {
            if (Modifier.isPrivate(method.getModifiers())) {
                continue;
            }
            Checks.due(method + " is in the face", due.remove(shape(method)) ? 1 : 0, 1);
            Checks.due(method + " is public alone", method.getModifiers(), Modifier.PUBLIC);
            names.add(method.getName());
        }
        Checks.due("missing: " + due, due.size(), 0);
        for (Method method : face.getDeclaredMethods()) {
            boolean both = Modifier.isPrivate(method.getModifiers()) && names.contains(method.getName());
            Checks.due(method + " bears a public name", both ? 1 : 0, 0);
        }
    }

    private static String shape(Method method) {
        String whole = method.toString();
        String behind = whole.substring(whole.indexOf("GhostSigns.") + "GhostSigns.".length());
        return method.getReturnType() + " " + behind;
    }

    private static void constants(Class<?> face) {
        Set<String> due = new TreeSet<>(Set.of(CONSTANTS));
        for (Field field : face.getDeclaredFields()) {
            int how = field.getModifiers();
            if (Modifier.isPrivate(how)) {
                continue;
            }
            Checks.due(field + " is in the face", due.remove(field.getName()) ? 1 : 0, 1);
            Checks.due(field + " is a constant", how, Modifier.PUBLIC | Modifier.STATIC | Modifier.FINAL);
        }
        Checks.due("missing: " + due, due.size(), 0);
        Checks.due("BAD", GhostSigns.BAD, -1);
        Checks.due("FULL", GhostSigns.FULL, -2);
        Checks.due("FINDING", GhostSigns.FINDING, -3);
        Checks.due("STATE", GhostSigns.STATE, -4);
        Checks.due("SPENT", GhostSigns.SPENT, -6);
        Checks.due("NONE", GhostSigns.NONE, -9);
    }
}
