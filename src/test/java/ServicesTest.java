/** Promises 5 (service) and 6 (callback). */
public final class ServicesTest {
    private static final Checks CHECKS = new Checks();

    public static void main(String[] args) {
        flagsOfServices();
        wrongServices();
        callbacksWorkOrNot();
        wrongCallbacks();
        CHECKS.end("services");
    }

    private static void flagsOfServices() {
        TicketHouse house = new TicketHouse();
        for (int s = 0; s < 6; s++) {
            CHECKS.same("first flags of " + s, house.service(s, 63 - s), 0);
        }
        for (int s = 0; s < 6; s++) {
            CHECKS.same("second flags of " + s, house.service(s, 0), 63 - s);
            CHECKS.same("third flags of " + s, house.service(s, 1), 0);
        }
    }

    private static void wrongServices() {
        TicketHouse house = new TicketHouse();
        house.service(0, 7);
        for (int s : new int[] {6, -1, Integer.MIN_VALUE, Integer.MAX_VALUE}) {
            CHECKS.badArgument("service(" + s + ", 1)", house, () -> house.service(s, 1));
        }
        for (int flags : new int[] {64, -1, Integer.MIN_VALUE, Integer.MAX_VALUE}) {
            CHECKS.badArgument("service(0, " + flags + ")", house, () -> house.service(0, flags));
        }
    }

    private static void callbacksWorkOrNot() {
        TicketHouse house = new TicketHouse();
        for (int c = 1; c <= 5; c++) {
            CHECKS.same("callback " + c + " at first", house.callback(c, c % 2 == 0), true);
        }
        for (int c = 1; c <= 5; c++) {
            CHECKS.same("callback " + c + " then", house.callback(c, false), c % 2 == 0);
            CHECKS.same("callback " + c + " at last", house.callback(c, true), false);
            CHECKS.same("callback " + c + " again", house.callback(c, true), true);
        }
    }

    private static void wrongCallbacks() {
        TicketHouse house = new TicketHouse();
        for (int c : new int[] {0, 6, -1, Integer.MIN_VALUE, Integer.MAX_VALUE}) {
            CHECKS.badArgument("callback(" + c + ", true)", house, () -> house.callback(c, true));
            CHECKS.badArgument("callback(" + c + ", false)", house, () -> house.callback(c, false));
        }
    }
}
