import java.lang.reflect.Constructor;
import java.lang.reflect.Field;
import java.lang.reflect.Method;
import java.lang.reflect.Modifier;
import java.util.Arrays;
import java.util.Set;
import java.util.TreeSet;

/** The class's face: the document's members are public, and all others are private. */
public final class FaceTest {
    private static final String[] FACE = {
        "int act(int, int)", "int aim(int, int)", "int begin()", "int compare(int, int)",
        "int drill(int, int)", "int event(int, int, int)", "boolean fault(int, int)",
        "int observe(int, int, int)", "int place()", "int play(int, int)", "int read()",
        "int real(int)", "int row(int, int)", "int score(int, int)", "int seen(int, int, int)",
        "int sign(long, int)", "void stop(int)", "int tick(int)", "void unit(int, int)",
    };

    public static void main(String[] args) {
        Check.same("final", Modifier.isFinal(DrillRows.class.getModifiers()) ? 1 : 0, 1);
        methods();
        constructors();
        for (Field field : DrillRows.class.getDeclaredFields()) {
            if (!Modifier.isPrivate(field.getModifiers())) {
                Check.report("the field " + field.getName() + " is not private");
            }
            if (Modifier.isStatic(field.getModifiers()) && !Modifier.isFinal(field.getModifiers())) {
                Check.report("the static field " + field.getName() + " is not final");
            }
        }
        nested();
        Check.end();
    }

    private static void methods() {
        Set<String> found = new TreeSet<>();
        Set<String> names = new TreeSet<>();
        for (Method method : DrillRows.class.getDeclaredMethods()) {
            if (Modifier.isPublic(method.getModifiers())) {
                found.add(told(method));
                names.add(method.getName());
            } else if (!Modifier.isPrivate(method.getModifiers())) {
                Check.report("the method " + method.getName() + " is neither public nor private");
            }
        }
        if (!found.equals(new TreeSet<>(Arrays.asList(FACE)))) {
            Check.report("the public methods are " + found);
        }
        for (Method method : DrillRows.class.getDeclaredMethods()) {
            if (Modifier.isPrivate(method.getModifiers()) && names.contains(method.getName())) {
                Check.report("the private method " + method.getName() + " bears a public name");
            }
        }
    }

    private static String told(Method method) {
        StringBuilder parameters = new StringBuilder();
        for (Class<?> type : method.getParameterTypes()) {
            parameters.append(parameters.length() == 0 ? "" : ", ").append(type.getName());
        }
        return method.getReturnType().getName() + " " + method.getName() + "(" + parameters + ")";
    }

    private static void constructors() {
        Constructor<?>[] all = DrillRows.class.getDeclaredConstructors();
        Check.same("constructors", all.length, 1);
        Check.same("parameters", all[0].getParameterCount(), 0);
        Check.same("public", Modifier.isPublic(all[0].getModifiers()) ? 1 : 0, 1);
    }

    private static void nested() {
        for (Class<?> inside : DrillRows.class.getDeclaredClasses()) {
            if (!Modifier.isStatic(inside.getModifiers()) || Modifier.isPublic(inside.getModifiers())) {
                Check.report("the class " + inside.getName() + " is public or not static");
            }
        }
    }
}
