import java.lang.reflect.Constructor;
import java.lang.reflect.Field;
import java.lang.reflect.Method;
import java.lang.reflect.Modifier;
import java.util.Set;
import java.util.TreeSet;

/** The public face: its constants, constructor and methods, each as documented, and nothing else to be seen. */
public final class FaceTest {
    private static final String I = "IndexOutOfBoundsException", A = "IllegalArgumentException",
            S = "IllegalStateException";
    private static final String[] METHODS = {
        "int type(char) " + S, "int clear()", "int vehicle(int, int, int) " + A + " " + S, "int stamped(int) " + A,
        "int person() " + S, "boolean protect(int, boolean) " + I,
        "int tell(int, int, int, int) " + I + " " + A + " " + S, "int on(int, int, int) " + I + " " + A,
        "int onAnew(int, int, int) " + I + " " + A, "boolean bar(char, char, boolean) " + A,
        "int allot(int) " + I + " " + S, "int wish(int) " + I + " " + S, "char plate(int, int, int) " + I + " " + A,
        "int rate(int, int, int) " + A + " " + S, "long pay(int, int) " + I + " " + A, "long owes(int) " + I,
        "int test(int, int, int, int) " + I + " " + A + " " + S, "boolean insure(int, int) " + I + " " + A,
        "int ofVehicle(int, int) " + I + " " + A, "int sight(int, int) " + A + " " + S, "int seen(int) " + I,
        "int fine(int, int) " + I + " " + A + " " + S, "int name(int, int) " + I + " " + S, "int whose(int) " + I,
        "int fines(int) " + I, "int look(int) " + I, "int looked(int) " + I, "int pass(int) " + A + " " + S,
    };
    private static final String[] CONSTANTS = {"NONE=-1", "KEEPER=0", "OWNER=1", "ON=2", "OFF=3", "STOLEN=4",
        "FOUND=5", "SCRAPPED=6", "CLASS=7", "UNKNOWN=0", "ROAD=1", "GARAGE=2", "MISSING=3", "GONE=4"};

    public static void main(String[] args) throws IllegalAccessException {
        Class<?> face = Platehall.class;
        Checks.due("public and final", face.getModifiers(), Modifier.PUBLIC | Modifier.FINAL);
        Checks.due("no class above it", face.getSuperclass() == Object.class, true);
        Checks.due("constructors", constructors(face), "[]");
        Checks.due("methods", methods(face), new TreeSet<String>(Set.of(METHODS)).toString());
        Checks.says("NONE = -1: There is none.");
        Checks.says("KEEPER = 0, OWNER = 1, ON = 2, OFF = 3, STOLEN = 4, FOUND = 5, SCRAPPED = 6, CLASS = 7: Events.");
        Checks.says("UNKNOWN = 0, ROAD = 1, GARAGE = 2, MISSING = 3, GONE = 4: States.");
        Checks.due("constants", constants(face), new TreeSet<String>(Set.of(CONSTANTS)).toString());
        for (Class<?> inside : face.getDeclaredClasses()) {
            boolean hidden = !Modifier.isPublic(inside.getModifiers()) && !Modifier.isProtected(inside.getModifiers());
            Checks.due(inside.getSimpleName() + " is hidden and static",
                    hidden && Modifier.isStatic(inside.getModifiers()), true);
        }
        Checks.end();
    }

    private static String constructors(Class<?> face) {
        StringBuilder all = new StringBuilder();
        for (Constructor<?> made : face.getDeclaredConstructors()) {
            if (Modifier.isPublic(made.getModifiers())) {
                all.append(types(made.getParameterTypes(), '[', ", ", ']'));
            } else {
                all.append("another one");
            }
        }
        return all.toString();
    }

    private static String methods(Class<?> face) {
        Set<String> all = new TreeSet<String>();
        for (Method method : face.getDeclaredMethods()) {
            if (!Modifier.isPrivate(method.getModifiers()) && !method.isSynthetic()) {
                String thrown = types(method.getExceptionTypes(), ' ', " ", ' ').trim();
                String line = method.getReturnType().getSimpleName() + " " + method.getName()
                        + types(method.getParameterTypes(), '(', ", ", ')') + " " + thrown;
                boolean plain = method.getModifiers() == Modifier.PUBLIC;
                all.add(plain ? line.trim() : "another one: " + line);
            }
        }
        return all.toString();
    }

    private static String constants(Class<?> face) throws IllegalAccessException {
        Set<String> all = new TreeSet<String>();
        for (Field field : face.getDeclaredFields()) {
            if (!Modifier.isPrivate(field.getModifiers()) && !field.isSynthetic()) {
                boolean plain = field.getModifiers() == (Modifier.PUBLIC | Modifier.STATIC | Modifier.FINAL)
                        && field.getType() == int.class;
                all.add(plain ? field.getName() + "=" + field.getInt(null) : "another one: " + field.getName());
            }
        }
        return all.toString();
    }

    private static String types(Class<?>[] types, char open, String between, char close) {
        StringBuilder all = new StringBuilder();
        all.append(open);
        for (int i = 0; i < types.length; i++) {
            all.append(i == 0 ? "" : between).append(types[i].getSimpleName());
        }
        return all.append(close).toString();
    }
}
