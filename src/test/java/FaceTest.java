import java.lang.reflect.Constructor;
import java.lang.reflect.Field;
import java.lang.reflect.Method;
import java.lang.reflect.Modifier;
import java.util.Arrays;
import java.util.TreeSet;

/** The document's public face, and no other member that others can see. */
public final class FaceTest {
    private static final String[] METHODS = {
        "int write(int, long, long)", "int trim(int)", "long read(int, int)", "int packed(int, int)",
        "int place(int)", "int flush()", "int checkpoint()", "int clean()", "boolean arm(int)",
        "boolean disarm()", "boolean crash()", "int recover()", "int live(int)", "int segment(int)", "int look(int)"
    };
    private static int wrong;

    public static void main(String[] args) {
        same("class", Modifier.toString(UnitLog.class.getModifiers()), "public final");
        same("constants", constants(), "[BAD = -1, DOWN = -4, NONE = -2, ROOM = -3]");
        same("constructors", constructors(), "[UnitLog(int)]");
        same("methods", methods().toString(), new TreeSet<>(Arrays.asList(METHODS)).toString());
        same("private methods named like public ones", twiceNamed(), "[]");
        for (Class<?> inside : UnitLog.class.getDeclaredClasses()) {
            same(inside.getSimpleName() + " is static", "" + Modifier.isStatic(inside.getModifiers()), "true");
            same(inside.getSimpleName() + " is public", "" + Modifier.isPublic(inside.getModifiers()), "false");
        }
        System.out.println(wrong + " things of the face are not as due");
        if (wrong != 0) {
            System.exit(1);
        }
    }

    private static void same(String what, String got, String want) {
        if (!got.equals(want)) {
            wrong++;
            System.out.println(what + ": " + got + ", due is " + want);
        }
    }

    private static boolean seen(int modifiers) {
        return !Modifier.isPrivate(modifiers);
    }

    private static String constants() {
        TreeSet<String> found = new TreeSet<>();
        for (Field f : UnitLog.class.getDeclaredFields()) {
            if (seen(f.getModifiers())) {
                found.add(Modifier.toString(f.getModifiers()).equals("public static final") && f.getType() == int.class
                        ? f.getName() + " = " + value(f) : f.toString());
            }
        }
        return found.toString();
    }

    private static int value(Field f) {
        try {
            return f.getInt(null);
        } catch (IllegalAccessException e) {
            return 0;
        }
    }

    private static String constructors() {
        TreeSet<String> found = new TreeSet<>();
        for (Constructor<?> c : UnitLog.class.getDeclaredConstructors()) {
            if (seen(c.getModifiers())) {
                found.add(c.getName() + arguments(c.getParameterTypes()));
            }
        }
        return found.toString();
    }

    private static TreeSet<String> methods() {
        TreeSet<String> found = new TreeSet<>();
        for (Method m : UnitLog.class.getDeclaredMethods()) {
            if (seen(m.getModifiers())) {
                found.add(m.getReturnType().getSimpleName() + " " + m.getName() + arguments(m.getParameterTypes()));
            }
        }
        return found;
    }

    private static String twiceNamed() {
        TreeSet<String> open = new TreeSet<>();
        for (String m : METHODS) {
            open.add(m.substring(m.indexOf(' ') + 1, m.indexOf('(')));
        }
        TreeSet<String> found = new TreeSet<>();
        for (Method m : UnitLog.class.getDeclaredMethods()) {
            if (!seen(m.getModifiers()) && open.contains(m.getName())) {
                found.add(m.getName());
            }
        }
        return found.toString();
    }

    private static String arguments(Class<?>[] types) {
        StringBuilder text = new StringBuilder();
        for (Class<?> t : types) {
            text.append(text.length() == 0 ? "" : ", ").append(t.getSimpleName());
        }
        return "(" + text + ")";
    }
}
