import java.lang.reflect.Constructor;
import java.lang.reflect.Field;
import java.lang.reflect.Method;
import java.lang.reflect.Modifier;
import java.util.Arrays;
import java.util.HashSet;
import java.util.List;
import java.util.Set;
import java.util.TreeSet;

/** The public face is the document's, and nothing more is to be seen from outside. */
final class FaceTest {
    private static final Checks checks = new Checks();

    private static final List<String> FACE = List.of(
        "int state()", "int action(int)", "boolean reward(int,int,int,int)", "boolean move(int,int,int,int)",
        "boolean discount(int,int)", "int solve()", "int policy(int)", "long value(int,int)",
        "long gain(int,int,int)", "long worth(int,int,int)", "long steps(int,int,int)", "int plan(int,int)",
        "long bound(int,int)", "boolean best()", "int count(int)");

    public static void main(String[] args) {
        int modifiers = PolicyWorks.class.getModifiers();
        checks.due("public and final", Modifier.isPublic(modifiers) && Modifier.isFinal(modifiers), true);
        checks.due("BAD", PolicyWorks.BAD, -1);
        checks.due("NONE", PolicyWorks.NONE, -2);
        methods();
        fields();
        constructors();
        classesInside();
        checks.end();
    }

    private static void methods() {
        Set<String> seen = new TreeSet<>();
        Set<String> names = new HashSet<>();
        for (Method m : PolicyWorks.class.getDeclaredMethods()) {
            if (!Modifier.isPrivate(m.getModifiers())) {
                String types = Arrays.toString(m.getParameterTypes()).replace(" ", "");
                seen.add(m.getReturnType() + " " + m.getName() + "(" + types.substring(1, types.length() - 1) + ")");
                names.add(m.getName());
                checks.due(m.getName() + " is public", Modifier.isPublic(m.getModifiers()), true);
            }
        }
        checks.due("methods " + seen, seen.equals(new TreeSet<>(FACE)), true);
        for (Method m : PolicyWorks.class.getDeclaredMethods()) {
            if (Modifier.isPrivate(m.getModifiers())) {
                checks.due("private " + m.getName() + " bears a public name", names.contains(m.getName()), false);
            }
        }
    }

    private static void fields() {
        for (Field f : PolicyWorks.class.getDeclaredFields()) {
            boolean open = f.getName().equals("BAD") || f.getName().equals("NONE");
            checks.due(f.getName() + " is public", Modifier.isPublic(f.getModifiers()), open);
            checks.due(f.getName() + " is private", Modifier.isPrivate(f.getModifiers()), !open);
            if (Modifier.isStatic(f.getModifiers())) {
                checks.due(f.getName() + " is final", Modifier.isFinal(f.getModifiers()), true);
            }
        }
    }

    private static void constructors() {
        Constructor<?>[] all = PolicyWorks.class.getDeclaredConstructors();
        checks.due("constructors", all.length, 1);
        checks.due("without arguments", all[0].getParameterCount(), 0);
        checks.due("public", Modifier.isPublic(all[0].getModifiers()), true);
    }

    private static void classesInside() {
        Class<?>[] inside = PolicyWorks.class.getDeclaredClasses();
        checks.due("at most twelve classes", inside.length < 12, true);
        for (Class<?> c : inside) {
            checks.due(c.getName() + " is static", Modifier.isStatic(c.getModifiers()), true);
            checks.due(c.getName() + " is public", Modifier.isPublic(c.getModifiers()), false);
            long held = Arrays.stream(c.getDeclaredFields()).filter(f -> !Modifier.isStatic(f.getModifiers())).count();
            checks.due(c.getName() + " has at most twenty fields", held <= 20, true);
        }
    }
}
