import java.lang.reflect.Constructor;
import java.lang.reflect.Field;
import java.lang.reflect.Method;
import java.lang.reflect.Modifier;
import java.util.Arrays;
import java.util.Set;
import java.util.TreeSet;

/** The public face is that of the document, no less and no more; and what LANGUAGE.md says of members. */
public final class FaceTest {
    private static final String[] METHODS = {
        "int row(int, int, int)", "int hold(int, int)", "int same(int, int)", "int size(int, int)",
        "int put(int, int, int, long)", "long get(int, int, int)", "int rest(int, int, int, long)",
        "int wind(int, int, int, long)", "long as(int, int, int, int)", "int whole(int, int, int, long, int)",
        "int move(int, int, int, int, int, int)", "int failed()", "int wheel(int, int, int)", "int lay(int, int, int)",
        "int turn(int, int, long)", "int train(int, int, int, int)", "long angle(int, int)", "long clicks(int, int)",
        "int count(int)"
    };
    private static final String[] CONSTANTS = {
        "BAD = -1", "NULL = -11", "CAST = -12", "INDEX = -13", "STORE = -14", "NONE = -15", "SIZE = -16"
    };

    private static final int MOST_CLASSES = 12;
    private static final int MOST_FIELDS = 20;
    private static final int MOST_PARAMETERS = 7;
    private static final Set<Class<?>> ENUM_TYPES = Set.of(int.class, long.class, boolean.class, String.class);
    private static final Set<Class<?>> STATIC_TYPES = Set.of(int.class, long.class, boolean.class, char.class, String.class,
            int[].class, long[].class, char[].class, byte[].class);

    private static int wrong = 0;

    public static void main(String[] args) throws IllegalAccessException {
        if (!Modifier.isPublic(DialTrain.class.getModifiers()) || !Modifier.isFinal(DialTrain.class.getModifiers())) {
            tell("the class is not public and final");
        }
        compare("methods", new TreeSet<>(Arrays.asList(METHODS)), methods());
        compare("constants", new TreeSet<>(Arrays.asList(CONSTANTS)), constants());
        constructors();
        namesOfHiddenMethods();
        classesInside();
        members(DialTrain.class);
        System.out.println(wrong == 0 ? "the face is as due" : wrong + " things of the face are not as due");
        if (wrong != 0) {
            System.exit(1);
        }
    }

    private static void tell(String what) {
        wrong++;
        System.out.println(what);
    }

    private static void compare(String what, Set<String> want, Set<String> got) {
        if (!want.equals(got)) {
            tell(what + " are " + got + ", due are " + want);
        }
    }

    private static void classesInside() {
        Class<?>[] all = DialTrain.class.getDeclaredClasses();
        if (all.length >= MOST_CLASSES) {
            tell("there are " + all.length + " classes inside");
        }
        for (Class<?> inside : all) {
            int kind = inside.getModifiers();
            if (Modifier.isPublic(kind) || Modifier.isProtected(kind) || !Modifier.isStatic(kind)) {
                tell(inside.getName() + " is public, protected or not static");
            }
            members(inside);
        }
    }

    /** What rules 2, 5 and 11 of LANGUAGE.md say of fields and parameters. */
    private static void members(Class<?> owner) {
        int fields = 0;
        for (Field field : owner.getDeclaredFields()) {
            if (field.isSynthetic() || field.isEnumConstant()) {
                continue;
            }
            boolean isStatic = Modifier.isStatic(field.getModifiers());
            if (isStatic && !(Modifier.isFinal(field.getModifiers()) && mayBeStatic(field.getType()))) {
                tell("rule 5 rules out the static field " + field);
            }
            if (owner.isEnum() && !isStatic && !ENUM_TYPES.contains(field.getType())) {
                tell("rule 2 rules out the field " + field);
            }
            fields += isStatic ? 0 : 1;
        }
        if (fields > MOST_FIELDS) {
            tell("rule 11: " + owner.getName() + " has " + fields + " fields");
        }
        for (Method method : owner.getDeclaredMethods()) {
            if (method.getParameterCount() > MOST_PARAMETERS) {
                tell("rule 11: " + method + " takes " + method.getParameterCount() + " parameters");
            }
        }
    }

    /** An enum's values() may be kept, too. */
    private static boolean mayBeStatic(Class<?> type) {
        return STATIC_TYPES.contains(type) || type.isArray() && type.getComponentType().isEnum();
    }

    private static void namesOfHiddenMethods() {
        Set<String> shown = new TreeSet<>();
        for (Method method : DialTrain.class.getMethods()) {
            shown.add(method.getName());
        }
        for (Method method : DialTrain.class.getDeclaredMethods()) {
            if (Modifier.isPrivate(method.getModifiers()) && shown.contains(method.getName())) {
                tell("a private method bears the name of a public one: " + method.getName());
            }
        }
    }

    private static Set<String> methods() {
        Set<String> names = new TreeSet<>();
        for (Method method : DialTrain.class.getDeclaredMethods()) {
            if (Modifier.isPrivate(method.getModifiers()) || method.isSynthetic()) {
                continue;
            }
            String types = Arrays.toString(method.getParameterTypes());
            names.add((Modifier.isPublic(method.getModifiers()) ? "" : "hidden ") + (Modifier.isStatic(method.getModifiers()) ? "static " : "")
                    + method.getReturnType() + " " + method.getName() + "(" + types.substring(1, types.length() - 1) + ")");
        }
        return names;
    }

    private static Set<String> constants() throws IllegalAccessException {
        Set<String> names = new TreeSet<>();
        for (Field field : DialTrain.class.getDeclaredFields()) {
            int kind = field.getModifiers();
            if (Modifier.isPrivate(kind) || field.isSynthetic()) {
                continue;
            }
            boolean constant = Modifier.isPublic(kind) && Modifier.isStatic(kind) && Modifier.isFinal(kind) && field.getType() == int.class;
            names.add(constant ? field.getName() + " = " + field.getInt(null) : "no constant " + field.getName());
        }
        return names;
    }

    private static void constructors() {
        Constructor<?>[] all = DialTrain.class.getDeclaredConstructors();
        if (all.length != 1 || !Modifier.isPublic(all[0].getModifiers()) || all[0].getParameterCount() != 0) {
            tell("the constructors are " + Arrays.toString(all));
        }
    }
}
