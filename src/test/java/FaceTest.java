import java.lang.reflect.Constructor;
import java.lang.reflect.Field;
import java.lang.reflect.Method;
import java.lang.reflect.Modifier;
import java.util.Arrays;
import java.util.HashSet;
import java.util.Set;
import java.util.TreeSet;

/** The public face as a whole: these members and no other. */
public final class FaceTest {
    private static final Checks CHECKS = new Checks();
    private static final String ARGUMENT = " throws IllegalArgumentException";
    private static final String BOTH = ARGUMENT + ", IllegalStateException";
    private static final String[] FACE = {
        "int letter(int)" + BOTH, "int text(int, int)" + ARGUMENT,
        "boolean password(int, int)" + ARGUMENT, "int service(int, int)" + ARGUMENT,
        "boolean callback(int, boolean)" + ARGUMENT, "int login(int, int, boolean)" + BOTH,
        "int enter(int, int, int)" + BOTH, "int ticket(int, int)" + BOTH,
        "int proxy(int, int)" + BOTH, "int validate(int, int, int, int)" + ARGUMENT,
        "int logout(int)" + BOTH, "int tick(int)" + ARGUMENT, "int document(int)",
        "int session(int, int)", "int about(int, int)", "int message(int)", "int house(int)",
    };

    public static void main(String[] args) {
        CHECKS.holds("public final class TicketHouse", FaceTest::theClass);
        CHECKS.holds("the methods of the face", FaceTest::methods);
        CHECKS.holds("no private method bears the name of a public one", FaceTest::names);
        CHECKS.holds("the constants of the face", FaceTest::fields);
        CHECKS.end("face");
    }

    private static void theClass() {
        Class<?> house = TicketHouse.class;
        CHECKS.same("class", Modifier.toString(house.getModifiers()), "public final");
        Constructor<?>[] constructors = house.getDeclaredConstructors();
        CHECKS.same("constructors", Arrays.toString(constructors), "[public TicketHouse()]");
    }

    private static boolean isPrivate(Method method) {
        return Modifier.isPrivate(method.getModifiers());
    }

    private static void methods() {
        Set<String> seen = new TreeSet<>();
        for (Method method : TicketHouse.class.getDeclaredMethods()) {
            if (!isPrivate(method)) {
                seen.add(written(method));
            }
        }
        CHECKS.same("methods", seen.toString(), new TreeSet<>(Arrays.asList(FACE)).toString());
    }

    private static String written(Method method) {
        String row = method.toString().replace("TicketHouse.", "").replace("java.lang.", "");
        return row.replace("public ", "").replace(",", ", ");
    }

    private static void names() {
        Set<String> names = new HashSet<>();
        for (Method method : TicketHouse.class.getDeclaredMethods()) {
            if (!isPrivate(method)) {
                names.add(method.getName());
            }
        }
        for (Method method : TicketHouse.class.getDeclaredMethods()) {
            boolean ownName = !isPrivate(method) || !names.contains(method.getName());
            CHECKS.same("a name of its own for " + method.getName(), ownName, true);
        }
    }

    private static void fields() {
        Set<String> fields = new TreeSet<>();
        for (Field field : TicketHouse.class.getDeclaredFields()) {
            if (!Modifier.isPrivate(field.getModifiers())) {
                fields.add(Modifier.toString(field.getModifiers()) + " " + field.getType() + " "
                        + field.getName());
            }
        }
        CHECKS.same("fields", fields.toString(), "[public static final int LOCKED,"
                + " public static final int NONE, public static final int WRONG]");
    }
}
