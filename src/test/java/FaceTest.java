import java.lang.reflect.Constructor;
import java.lang.reflect.Field;
import java.lang.reflect.Method;
import java.lang.reflect.Modifier;
import java.util.Arrays;
import java.util.Set;
import java.util.TreeSet;

/** The class shows just the document's face, and bears no private method with a public name. */
public final class FaceTest {
    private static final String[] CALLS = {"say/1", "wipe/0", "fault/0", "take/0", "name/1", "node/2", "may/2",
        "way/3", "end/2", "alike/2", "pieces/1", "join/3", "slip/0", "fits/1", "size/0", "count/2", "least/1",
        "told/1"};
    private static final String[] CONSTANTS = {"NONE=-6", "UNKNOWN=-1", "OUTSIDE=-2", "STATE=-3", "FULL=-4", "NO=-5"};
    private static int wrong = 0;

    private static void due(String what, Object got, Object want) {
        if (!got.equals(want)) {
            wrong++;
            System.out.println(what + " is " + got + ", due is " + want);
        }
    }

    public static void main(String[] args) throws ReflectiveOperationException {
        Class<?> face = KindNets.class;
        due("the class", Modifier.toString(face.getModifiers()), "public final");
        Set<String> constants = new TreeSet<>();
        for (Field field : face.getDeclaredFields()) {
            if (!Modifier.isPrivate(field.getModifiers())) {
                due("modifiers of " + field.getName(), Modifier.toString(field.getModifiers()), "public static final");
                constants.add(field.getName() + "=" + field.getInt(null));
            }
        }
        due("constants", constants, new TreeSet<>(Arrays.asList(CONSTANTS)));
        Constructor<?>[] made = face.getDeclaredConstructors();
        due("constructors", made.length, 1);
        due("the constructor", Modifier.toString(made[0].getModifiers()) + made[0].getParameterCount(), "public0");
        calls(face);
        for (Class<?> inside : face.getDeclaredClasses()) {
            due(inside.getName() + " is static", Modifier.isStatic(inside.getModifiers()), true);
            due(inside.getName() + " is not public", Modifier.isPublic(inside.getModifiers()), false);
            for (Method method : inside.getDeclaredMethods()) {
                due(inside.getName() + "." + method.getName() + " is a public name", isCall(method.getName()), false);
            }
        }
        System.out.println(wrong == 0 ? "the face is as due" : wrong + " things are not as due");
        if (wrong != 0) {
            System.exit(1);
        }
    }

    private static void calls(Class<?> face) {
        Set<String> calls = new TreeSet<>();
        for (Method method : face.getDeclaredMethods()) {
            if (Modifier.isPrivate(method.getModifiers())) {
                due("private " + method.getName() + " is a public name", isCall(method.getName()), false);
                continue;
            }
            due("modifiers of " + method.getName(), Modifier.toString(method.getModifiers()), "public");
            due("type of " + method.getName(), method.getReturnType(), int.class);
            for (Class<?> type : method.getParameterTypes()) {
                due("a parameter of " + method.getName(), type, int.class);
            }
            calls.add(method.getName() + "/" + method.getParameterCount());
        }
        due("calls", calls, new TreeSet<>(Arrays.asList(CALLS)));
    }

    private static boolean isCall(String name) {
        for (String call : CALLS) {
            if (call.startsWith(name + "/")) {
                return true;
            }
        }
        return false;
    }
}
