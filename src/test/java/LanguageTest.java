import java.lang.reflect.Constructor;
import java.lang.reflect.Executable;
import java.lang.reflect.Field;
import java.lang.reflect.InvocationTargetException;
import java.lang.reflect.Method;
import java.lang.reflect.Modifier;
import java.util.ArrayList;
import java.util.Arrays;
import java.util.List;
import java.util.Random;

/** Rules of LANGUAGE.md, as far as they can be seen from outside the file. */
public final class LanguageTest {
    private static final Checks CHECKS = new Checks();
    private static final int MOST_CLASSES = 12;
    private static final int MOST_FIELDS = 20;
    private static final int MOST_PARAMETERS = 7;
    private static final int HOUSES = 40;
    private static final int CALLS = 5000;

    public static void main(String[] args) {
        CHECKS.holds("rule 1: the classes inside are private or package-visible and static",
                LanguageTest::classesInside);
        CHECKS.holds("rule 5: static fields are final", LanguageTest::staticFields);
        CHECKS.holds("rules 6, 7: nothing else ever reaches its caller, for any arguments in any "
                + "state", LanguageTest::anyArguments);
        CHECKS.holds("rule 11: parameters, classes and fields", LanguageTest::sizes);
        CHECKS.end("language");
    }

    private static List<Class<?>> classes() {
        List<Class<?>> found = new ArrayList<>(Arrays.asList(
                TicketHouse.class.getDeclaredClasses()));
        found.add(TicketHouse.class);
        return found;
    }

    private static void classesInside() {
        for (Class<?> inside : TicketHouse.class.getDeclaredClasses()) {
            int modifiers = inside.getModifiers();
            boolean hidden = !Modifier.isPublic(modifiers) && !Modifier.isProtected(modifiers);
            CHECKS.same(inside + " is hidden", hidden, true);
            CHECKS.same(inside + " is static", Modifier.isStatic(modifiers), true);
        }
    }

    private static void staticFields() {
        for (Class<?> one : classes()) {
            for (Field field : one.getDeclaredFields()) {
                int modifiers = field.getModifiers();
                CHECKS.same(field + " is final or not static",
                        Modifier.isFinal(modifiers) || !Modifier.isStatic(modifiers), true);
            }
        }
    }

    /** Far more calls than anything is promised for: even then none may throw by itself. */
    private static void anyArguments() {
        Method[] methods = TicketHouse.class.getDeclaredMethods();
        List<Method> face = new ArrayList<>();
        for (Method method : methods) {
            if (Modifier.isPublic(method.getModifiers())) {
                face.add(method);
            }
        }
        // The order of reflection is free, but the runs are to be the same always.
        face.sort((a, b) -> a.getName().compareTo(b.getName()));
        for (int run = 0; run < HOUSES; run++) {
            Random random = new Random(run);
            TicketHouse house = new TicketHouse();
            for (int i = 0; i < CALLS; i++) {
                callOnce(house, face.get(random.nextInt(face.size())), random);
            }
        }
    }

    private static void callOnce(TicketHouse house, Method method, Random random) {
        Object[] arguments = new Object[method.getParameterCount()];
        for (int i = 0; i < arguments.length; i++) {
            boolean isNumber = method.getParameterTypes()[i] == int.class;
            arguments[i] = isNumber ? (Object) number(random) : (Object) random.nextBoolean();
        }
        try {
            method.invoke(house, arguments);
        } catch (InvocationTargetException e) {
            Class<?> thrown = e.getCause().getClass();
            boolean declared = Arrays.asList(method.getExceptionTypes()).contains(thrown);
            CHECKS.same(method.getName() + Arrays.toString(arguments) + " throws " + thrown
                    + " as the face says", declared, true);
        } catch (IllegalAccessException e) {
            throw new IllegalStateException(e);
        }
    }

    private static int number(Random random) {
        switch (random.nextInt(12)) {
            case 0: return random.nextInt();
            case 1: return Integer.MIN_VALUE + random.nextInt(3);
            case 2: return Integer.MAX_VALUE - random.nextInt(3);
            case 3: return random.nextInt(256) - 50;
            case 4: return -1 - random.nextInt(3);
            default: return random.nextInt(6);
        }
    }

    private static void sizes() {
        CHECKS.same("at most twelve classes", classes().size() <= MOST_CLASSES, true);
        for (Class<?> one : classes()) {
            int fields = 0;
            for (Field field : one.getDeclaredFields()) {
                fields += Modifier.isStatic(field.getModifiers()) ? 0 : 1;
            }
            CHECKS.same("few fields of " + one, fields <= MOST_FIELDS, true);
            for (Method method : one.getDeclaredMethods()) {
                fewParameters(method);
            }
            for (Constructor<?> constructor : one.getDeclaredConstructors()) {
                fewParameters(constructor);
            }
        }
    }

    private static void fewParameters(Executable executable) {
        CHECKS.same("few parameters of " + executable,
                executable.getParameterCount() <= MOST_PARAMETERS, true);
    }
}
