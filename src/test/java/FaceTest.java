import java.lang.reflect.Constructor;
import java.lang.reflect.Field;
import java.lang.reflect.Method;
import java.lang.reflect.Modifier;
import java.util.Arrays;
import java.util.Set;
import java.util.TreeSet;

/** The public face is that of the document, no less and no more; and what LANGUAGE.md says of members. */
public final class FaceTest {
    private static final String[] METHODS = {
        "int row(int, int, int)", "int hold(int, int)", "int same(int, int)", "int size(int, int)",
        "int put(int, int, int, long)", "long get(int, int, int)", "int rest(int, int, int, long)",
        "int wind(int, int, int, long)", "long as(int, int, int, int)", "int whole(int, int, int, long, int)",
        "int move(int, int, int, int, int, int)", "int failed()", "int wheel(int, int, int)", "int lay(int, int, int)",
        "int turn(int, int, long)", "int train(int, int, int, int)", "long angle(int, int)", "long clicks(int, int)",
        "int count(int)"
    };
    private static final String[] CONSTANTS = {
        "BAD = -1", "NULL = -11", "CAST = -12", "INDEX = -13", "STORE = -14", "NONE = -15", "SIZE = -16"
    };

    private static int wrong = 0;

    public static void main(String[] args) throws IllegalAccessException {
        if (!Modifier.isPublic(DialTrain.class.getModifiers()) || !Modifier.isFinal(DialTrain.class.getModifiers())) {
            tell("the class is not public and final");
        }
        compare("methods", new TreeSet<>(Arrays.asList(METHODS)), methods());
        compare("constants", new TreeSet<>(Arrays.asList(CONSTANTS)), constants());
        constructors();
        namesOfHiddenMethods();
        for (Class<?> inside : DialTrain.class.getDeclaredClasses()) {
            if (Modifier.isPublic(inside.getModifiers()) || Modifier.isProtected(inside.getModifiers())) {
                tell(inside.getName() + " is public or protected");
            }
        }
        System.out.println(wrong == 0 ? "the face is as due" : wrong + " things of the face are not as due");
        if (wrong != 0) {
            System.exit(1);
        }
    }

    private static void tell(String what) {
        wrong++;
        System.out.println(what);
    }

    private static void compare(String what, Set<String> want, Set<String> got) {
        if (!want.equals(got)) {
            tell(what + " are " + got + ", due are " + want);
        }
    }

    private static void namesOfHiddenMethods() {
        Set<String> shown = new TreeSet<>();
        for (Method method : DialTrain.class.getMethods()) {
            shown.add(method.getName());
        }
        for (Method method : DialTrain.class.getDeclaredMethods()) {
            if (Modifier.isPrivate(method.getModifiers()) && shown.contains(method.getName())) {
                tell("a private method bears the name of a public one: " + method.getName());
            }
        }
    }

    private static Set<String> methods() {
        Set<String> names = new TreeSet<>();
        for (Method method : DialTrain.class.getDeclaredMethods()) {
            if (Modifier.isPrivate(method.getModifiers()) || method.isSynthetic()) {
                continue;
            }
            String types = Arrays.toString(method.getParameterTypes());
            names.add((Modifier.isPublic(method.getModifiers()) ? "" : "hidden ") + (Modifier.isStatic(method.getModifiers()) ? "static " : "")
                    + method.getReturnType() + " " + method.getName() + "(" + types.substring(1, types.length() - 1) + ")");
        }
        return names;
    }

    private static Set<String> constants() throws IllegalAccessException {
        Set<String> names = new TreeSet<>();
        for (Field field : DialTrain.class.getDeclaredFields()) {
            int kind = field.getModifiers();
            if (Modifier.isPrivate(kind) || field.isSynthetic()) {
                continue;
            }
            boolean constant = Modifier.isPublic(kind) && Modifier.isStatic(kind) && Modifier.isFinal(kind) && field.getType() == int.class;
            names.add(constant ? field.getName() + " = " + field.getInt(null) : "no constant " + field.getName());
        }
        return names;
    }

    private static void constructors() {
        Constructor<?>[] all = DialTrain.class.getDeclaredConstructors();
        if (all.length != 1 || !Modifier.isPublic(all[0].getModifiers()) || all[0].getParameterCount() != 0) {
            tell("the constructors are " + Arrays.toString(all));
        }
    }
}
