/** Promises 5 (service) and 6 (callback), and what each flag alone does. */
public final class ServicesTest {
    private static final Checks CHECKS = new Checks();

    public static void main(String[] args) {
        CHECKS.holds("SERVICES 0 .. 5 have each FLAGS (0 at first)", ServicesTest::flagsAtFirst);
        CHECKS.holds("5: The flags of a service become these; answers those that it had",
                ServicesTest::everyFlags);
        CHECKS.holds("5: there is no such service", ServicesTest::wrongServices);
        CHECKS.holds("5: flags is not 0 .. 63", ServicesTest::wrongFlags);
        CHECKS.holds("FLAGS: 1 it is ENABLED", ServicesTest::enabled);
        CHECKS.holds("FLAGS: 2 it may use PROXIES", ServicesTest::proxies);
        CHECKS.holds("FLAGS: 4 it is TOLD of ends", ServicesTest::told);
        CHECKS.holds("FLAGS: 8, 16, 32: attributes 0, 1, 2 are RELEASED to it",
                ServicesTest::released);
        CHECKS.holds("CALLBACKS 1 .. 5 work (at first)", ServicesTest::callbacksAtFirst);
        CHECKS.holds("6: Callback c works from now on, or not; answers whether it did",
                ServicesTest::callbacks);
        CHECKS.holds("CALLBACKS 1 .. 5 work or not", ServicesTest::brokenCallbacks);
        CHECKS.holds("6: c is not 1 .. 5", ServicesTest::wrongCallbacks);
        CHECKS.end("services");
    }

    private static void flagsAtFirst() {
        for (int s = 0; s < 6; s++) {
            House house = new House();
            house.password(0, 5);
            int service = s;
            CHECKS.badArgument("enter, not enabled", house, h -> h.enter(0, 5, service));
            CHECKS.same("service(" + s + ", 63)", house.service(s, 63), 0);
        }
    }

    private static void everyFlags() {
        House house = new House();
        int before = 0;
        for (int flags = 0; flags <= 63; flags++) {
            for (int s = 0; s < 6; s++) {
                CHECKS.same("service(" + s + ", " + flags + ")", house.service(s, flags), before);
            }
            before = flags;
        }
        CHECKS.same("service(0, 0)", house.service(0, 0), 63);
        CHECKS.same("service(0, 1)", house.service(0, 1), 0);
        CHECKS.same("service(5, 1)", house.service(5, 1), 63);
    }

    private static void wrongServices() {
        House house = Scenes.start();
        for (int flags : new int[] {0, 1, 63}) {
            CHECKS.badOutside("service(#, " + flags + ")", house, 0, 5,
                    (h, s) -> h.service(s, flags));
        }
    }

    private static void wrongFlags() {
        House house = Scenes.start();
        for (int service : new int[] {0, 3, 5}) {
            CHECKS.badOutside("service(" + service + ", #)", house, 0, 63,
                    (h, flags) -> h.service(service, flags));
        }
        CHECKS.badOutside("service(6, #)", house, 0, 63, (h, flags) -> h.service(6, flags));
    }

    private static void enabled() {
        for (int flags = 0; flags <= 63; flags++) {
            House house = Scenes.granting();
            house.service(4, 1);
            house.ticket(0, 4);
            house.service(4, flags);
            if (flags % 2 == 1) {
                CHECKS.same("validate", house.validate(2, 4, 0, 0), 0);
                CHECKS.same("enter", house.enter(0, 5, 4), 3);
                CHECKS.same("ticket", house.ticket(0, 4), 4);
                CHECKS.same("proxy", house.proxy(1, 4), 5);
            } else {
                CHECKS.same("validate", house.validate(2, 4, 0, 0), 1);
                CHECKS.badArgument("enter", house, h -> h.enter(0, 5, 4));
                CHECKS.badArgument("ticket", house, h -> h.ticket(0, 4));
                CHECKS.badArgument("proxy", house, h -> h.proxy(1, 4));
            }
        }
    }

    private static void proxies() {
        for (int flags = 1; flags <= 63; flags += 2) {
            House house = Scenes.start();
            house.service(4, flags);
            CHECKS.same("validate", house.validate(house.enter(0, 5, 4), 4, 0, 1), 0);
            CHECKS.same("house(2), flags " + flags, house.house(2), (flags & 2) == 0 ? 1 : 2);
        }
    }

    /** A service that is not enabled any more is told as well. */
    private static void told() {
        for (int flags = 0; flags <= 63; flags++) {
            House house = Scenes.start();
            house.enter(0, 5, 1);
            house.service(1, flags);
            CHECKS.same("logout(0), flags " + flags, house.logout(0), (flags & 4) == 0 ? 0 : 1);
        }
    }

    private static void released() {
        for (int flags = 1; flags <= 63; flags += 2) {
            House house = Scenes.start();
            StringBuilder due = new StringBuilder("<ok u=\"\">");
            for (int i = 0; i < 3; i++) {
                Scenes.text(house, 0, i, "text" + i);
                if ((flags & new int[] {8, 16, 32}[i]) != 0) {
                    due.append("<a" + i + ">text" + i + "</a" + i + ">");
                }
            }
            house.service(4, flags);
            house.validate(house.enter(0, 5, 4), 4, 4, 0);
            CHECKS.same("document, flags " + flags, Reading.document(house),
                    due + "<d>0</d><n>1</n></ok>");
        }
    }

    private static void callbacksAtFirst() {
        for (int c = 1; c <= 5; c++) {
            House house = Scenes.start();
            house.validate(house.enter(0, 5, 0), 0, 0, c);
            CHECKS.same("house(2)", house.house(2), 2);
            CHECKS.same("about(1, 3)", house.about(1, 3), c);
            CHECKS.same("callback(" + c + ", true)", house.callback(c, true), true);
        }
    }

    private static void callbacks() {
        House house = new House();
        for (int c = 1; c <= 5; c++) {
            CHECKS.same("callback " + c + " at first", house.callback(c, c % 2 == 0), true);
        }
        for (int c = 1; c <= 5; c++) {
            CHECKS.same("callback " + c + " then", house.callback(c, false), c % 2 == 0);
            CHECKS.same("callback " + c + " stays so", house.callback(c, false), false);
            CHECKS.same("callback " + c + " at last", house.callback(c, true), false);
            CHECKS.same("callback " + c + " again", house.callback(c, true), true);
        }
    }

    private static void brokenCallbacks() {
        for (int broken = 1; broken <= 5; broken++) {
            House house = Scenes.start();
            house.callback(broken, false);
            int tickets = 0;
            for (int c = 1; c <= 5; c++) {
                CHECKS.same("validate", house.validate(house.enter(0, 5, 0), 0, 0, c), 0);
                tickets += c == broken ? 1 : 2;
                CHECKS.same("house(2), callback " + c, house.house(2), tickets);
            }
            house.callback(broken, true);
            house.validate(house.enter(0, 5, 0), 0, 0, broken);
            CHECKS.same("house(2), it works again", house.house(2), tickets + 2);
        }
    }

    private static void wrongCallbacks() {
        House house = Scenes.start();
        house.callback(1, false);
        house.callback(5, false);
        CHECKS.badOutside("callback(#, true)", house, 1, 5, (h, c) -> h.callback(c, true));
        CHECKS.badOutside("callback(#, false)", house, 1, 5, (h, c) -> h.callback(c, false));
    }
}
