import java.lang.reflect.Constructor;
import java.lang.reflect.Field;
import java.lang.reflect.Method;
import java.lang.reflect.Modifier;
import java.util.Arrays;
import java.util.Set;
import java.util.TreeSet;

/** The class has the document's face and nothing visible beside it. */
public final class FaceTest {
    private static final String[] METHODS = {
        "bridges(int)", "check(int)", "chosen(int, int)", "clear()", "face(int, int)",
        "fault(int, int, int)", "first(int)", "hides(int, int)", "member(int, int, int, int)",
        "overrides(int, int)", "sub(int, int)", "thrown0(int, boolean)", "throws0(int, int)",
        "told(int)", "type(int, int, int)",
    };
    private static final String[] CONSTANTS = {"FIGHT", "NONE", "OUTSIDE", "ROOM", "UNKNOWN"};

    public static void main(String[] args) {
        Due due = new Due();
        due.holds("public final", (OverrideRules.class.getModifiers()
                & (Modifier.PUBLIC | Modifier.FINAL)) == (Modifier.PUBLIC | Modifier.FINAL));
        constants(due);
        constructors(due);
        methods(due);
        classesInside(due);
        due.end();
    }

    private static void constants(Due due) {
        due.is("NONE", OverrideRules.NONE, -1);
        due.is("UNKNOWN", OverrideRules.UNKNOWN, -2);
        due.is("OUTSIDE", OverrideRules.OUTSIDE, -3);
        due.is("ROOM", OverrideRules.ROOM, -4);
        due.is("FIGHT", OverrideRules.FIGHT, -5);
        Set<String> names = new TreeSet<>();
        for (Field field : OverrideRules.class.getDeclaredFields()) {
            if (!Modifier.isPrivate(field.getModifiers())) {
                names.add(field.getName());
            }
        }
        due.holds("visible fields " + names, names.equals(new TreeSet<>(Arrays.asList(CONSTANTS))));
    }

    private static void constructors(Due due) {
        Constructor<?>[] all = OverrideRules.class.getDeclaredConstructors();
        due.is("constructors", all.length, 1);
        due.is("its parameters", all[0].getParameterCount(), 0);
        due.holds("it is public", Modifier.isPublic(all[0].getModifiers()));
    }

    private static void methods(Due due) {
        Set<String> visible = new TreeSet<>();
        Set<String> visibleNames = new TreeSet<>();
        for (Method method : OverrideRules.class.getDeclaredMethods()) {
            if (!Modifier.isPrivate(method.getModifiers())) {
                String types = Arrays.toString(method.getParameterTypes());
                visible.add(method.getName() + "(" + types.substring(1, types.length() - 1) + ")");
                visibleNames.add(method.getName());
                due.holds(method.getName() + " answers an int", method.getReturnType() == int.class);
            }
        }
        due.holds("visible methods " + visible, visible.equals(new TreeSet<>(Arrays.asList(METHODS))));
        for (Method method : OverrideRules.class.getDeclaredMethods()) {
            due.holds("private " + method.getName(), !Modifier.isPrivate(method.getModifiers())
                    || !visibleNames.contains(method.getName()));
        }
    }

    private static void classesInside(Due due) {
        for (Class<?> inside : OverrideRules.class.getDeclaredClasses()) {
            due.holds(inside.getName() + " is static", Modifier.isStatic(inside.getModifiers()));
            due.holds(inside.getName() + " is not public", !Modifier.isPublic(inside.getModifiers()));
        }
    }
}
