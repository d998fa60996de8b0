import java.lang.reflect.Constructor;
import java.lang.reflect.Field;
import java.lang.reflect.Method;
import java.lang.reflect.Modifier;
import java.util.Arrays;
import java.util.HashSet;
import java.util.Set;
import java.util.TreeSet;

/** Promises 1 (a new object) and 18 (house), the constants, and the face as a whole. */
public final class HouseTest {
    private static final Checks CHECKS = new Checks();
    private static final String ARGUMENT = " throws IllegalArgumentException";
    private static final String BOTH = ARGUMENT + ", IllegalStateException";
    private static final String[] FACE = {
        "int letter(int)" + BOTH, "int text(int, int)" + ARGUMENT,
        "boolean password(int, int)" + ARGUMENT, "int service(int, int)" + ARGUMENT,
        "boolean callback(int, boolean)" + ARGUMENT, "int login(int, int, boolean)" + BOTH,
        "int enter(int, int, int)" + BOTH, "int ticket(int, int)" + BOTH,
        "int proxy(int, int)" + BOTH, "int validate(int, int, int, int)" + ARGUMENT,
        "int logout(int)" + BOTH, "int tick(int)" + ARGUMENT, "int document(int)",
        "int session(int, int)", "int about(int, int)", "int message(int)", "int house(int)",
    };

    public static void main(String[] args) {
        aNewObject();
        objectsAreApart();
        theHouse();
        constants();
        face();
        CHECKS.end("house");
    }

    private static void aNewObject() {
        TicketHouse house = new TicketHouse();
        for (int what = 0; what <= 8; what++) {
            CHECKS.same("house(" + what + ")", house.house(what), 0);
        }
        CHECKS.same("document(NONE)", house.document(TicketHouse.NONE), 0);
        CHECKS.same("document(0)", house.document(0), TicketHouse.NONE);
        CHECKS.same("session(0, 0)", house.session(0, 0), TicketHouse.NONE);
        CHECKS.same("about(0, 0)", house.about(0, 0), TicketHouse.NONE);
        CHECKS.same("message(0)", house.message(0), TicketHouse.NONE);
        for (int u = 0; u < 4; u++) {
            CHECKS.same("login of " + u, house.login(u, 0, false), TicketHouse.WRONG);
        }
    }

    private static void objectsAreApart() {
        TicketHouse one = new TicketHouse();
        TicketHouse other = new TicketHouse();
        String before = Checks.all(other);
        one.letter(65);
        one.password(0, 5);
        one.service(0, 7);
        one.callback(1, false);
        one.enter(0, 5, 0);
        one.validate(0, 0, 0, 2);
        one.tick(200);
        CHECKS.same("the other object", Checks.all(other), before);
    }

    private static void theHouse() {
        TicketHouse house = new TicketHouse();
        for (int u = 0; u < 4; u++) {
            house.password(u, 5);
            for (int i = 0; i < 3 - u; i++) {
                house.login(u, 6, false);
            }
        }
        house.tick(9);
        house.service(0, 7);
        house.login(3, 5, true);
        house.enter(3, 5, 0);
        house.validate(0, 0, 0, 1);
        house.ticket(0, 0);
        house.logout(1);
        Checks.draft(house, "draft");
        int[] due = {9, 2, 3, 1, 5, 3, 2, 1, 0};
        for (int what = 0; what <= 8; what++) {
            CHECKS.same("house(" + what + ")", house.house(what), due[what]);
        }
        for (int what : new int[] {-1, 9, Integer.MIN_VALUE, Integer.MAX_VALUE}) {
            CHECKS.same("house(" + what + ")", house.house(what), TicketHouse.NONE);
        }
    }

    private static void constants() {
        CHECKS.same("NONE", TicketHouse.NONE, -1);
        CHECKS.same("WRONG", TicketHouse.WRONG, -2);
        CHECKS.same("LOCKED", TicketHouse.LOCKED, -3);
    }

    private static void face() {
        Class<?> house = TicketHouse.class;
        CHECKS.same("class", Modifier.toString(house.getModifiers()), "public final");
        Set<String> seen = new TreeSet<>();
        Set<String> names = new HashSet<>();
        for (Method method : house.getDeclaredMethods()) {
            if (!Modifier.isPrivate(method.getModifiers())) {
                seen.add(written(method));
                names.add(method.getName());
            }
        }
        CHECKS.same("methods", seen.toString(), new TreeSet<>(Arrays.asList(FACE)).toString());
        for (Method method : house.getDeclaredMethods()) {
            boolean ownName = !Modifier.isPrivate(method.getModifiers())
                    || !names.contains(method.getName());
            CHECKS.same("a name of its own for " + method.getName(), ownName, true);
        }
        Set<String> fields = new TreeSet<>();
        for (Field field : house.getDeclaredFields()) {
            if (!Modifier.isPrivate(field.getModifiers())) {
                fields.add(Modifier.toString(field.getModifiers()) + " " + field.getName());
            }
        }
        CHECKS.same("fields", fields.toString(), "[public static final LOCKED,"
                + " public static final NONE, public static final WRONG]");
        Constructor<?>[] constructors = house.getDeclaredConstructors();
        CHECKS.same("constructors", Arrays.toString(constructors), "[public TicketHouse()]");
    }

    private static String written(Method method) {
        String row = method.toString().replace("TicketHouse.", "").replace("java.lang.", "");
        return row.replace("public ", "").replace(",", ", ");
    }
}
