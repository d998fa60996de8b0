/** Promises 12 (logout), 13 (tick), 15 (session) and 17 (message). */
public final class EndsTest {
    private static final Checks CHECKS = new Checks();

    public static void main(String[] args) {
        logoutTells();
        logoutRefuses();
        toldNow();
        theClock();
        tickRefuses();
        idleSessions();
        useKeepsSessions();
        longSessions();
        endsInOrder();
        endsOnce();
        aHouseFullOfMessages();
        noSuchSession();
        noSuchMessage();
        CHECKS.end("ends");
    }

    private static TicketHouse withUser() {
        TicketHouse house = new TicketHouse();
        house.password(0, 5);
        house.service(0, 7);
        house.service(1, 5);
        house.service(2, 1);
        return house;
    }

    private static void logoutTells() {
        TicketHouse house = withUser();
        house.login(0, 5, false);
        house.login(0, 5, false);
        house.ticket(0, 1);
        house.ticket(1, 1);
        house.ticket(0, 2);
        house.ticket(0, 0);
        house.validate(3, 0, 0, 1);
        house.proxy(4, 0);
        house.ticket(0, 1);
        CHECKS.same("logout(0)", house.logout(0), 3);
        CHECKS.same("messages", Checks.messages(house), "1000 3 1006");
        CHECKS.same("session 0", Checks.session(house, 0), "0 0 0 0 0");
        CHECKS.same("session 1 is open", house.session(1, 1), 1);
        CHECKS.same("its ticket is good", house.about(1, 1), 1);
        CHECKS.same("logout(1)", house.logout(1), 1);
        CHECKS.same("messages", Checks.messages(house), "1000 3 1006 1001");
        house.login(0, 5, false);
        CHECKS.same("logout without tickets", house.logout(2), 0);
    }

    private static void logoutRefuses() {
        TicketHouse house = withUser();
        house.enter(0, 5, 0);
        house.logout(0);
        CHECKS.badState("logout(0) again", house, () -> house.logout(0));
        for (int n : new int[] {1, -1, 40, Integer.MIN_VALUE, Integer.MAX_VALUE}) {
            CHECKS.badArgument("logout(" + n + ")", house, () -> house.logout(n));
        }
        house.enter(0, 5, 0);
        house.tick(31);
        CHECKS.badState("logout(1), ended by the clock", house, () -> house.logout(1));
    }

    private static void toldNow() {
        TicketHouse house = withUser();
        house.login(0, 5, false);
        house.ticket(0, 1);
        house.ticket(0, 2);
        house.service(1, 1);
        house.service(2, 4);
        CHECKS.same("logout(0)", house.logout(0), 1);
        CHECKS.same("messages", Checks.messages(house), "2001");
        house.service(1, 5);
        CHECKS.same("house(3), told too late", house.house(3), 1);
    }

    private static void theClock() {
        TicketHouse house = new TicketHouse();
        CHECKS.same("tick(1)", house.tick(1), 1);
        CHECKS.same("tick(200)", house.tick(200), 201);
        CHECKS.same("tick(7)", house.tick(7), 208);
        CHECKS.same("house(0)", house.house(0), 208);
    }

    private static void tickRefuses() {
        TicketHouse house = withUser();
        house.enter(0, 5, 0);
        house.tick(30);
        for (int n : new int[] {0, 201, -1, Integer.MIN_VALUE, Integer.MAX_VALUE}) {
            CHECKS.badArgument("tick(" + n + ")", house, () -> house.tick(n));
        }
    }

    private static void idleSessions() {
        TicketHouse house = withUser();
        house.login(0, 5, false);
        house.login(0, 5, true);
        house.tick(30);
        CHECKS.same("30 later", house.session(0, 1), 1);
        house.tick(1);
        CHECKS.same("31 later", house.session(0, 1), 0);
        house.tick(119);
        CHECKS.same("remembered, 150 later", house.session(1, 1), 1);
        house.tick(1);
        CHECKS.same("remembered, 151 later", house.session(1, 1), 0);
    }

    private static void useKeepsSessions() {
        TicketHouse house = withUser();
        house.enter(0, 5, 0);
        house.tick(10);
        house.validate(0, 0, 0, 2);
        house.tick(30);
        CHECKS.same("30 after validate", house.session(0, 1), 1);
        house.proxy(1, 0);
        house.tick(30);
        CHECKS.same("30 after proxy", house.session(0, 1), 1);
        house.ticket(0, 0);
        house.tick(30);
        CHECKS.same("30 after ticket", house.session(0, 1), 1);
        house.tick(1);
        CHECKS.same("31 after ticket", house.session(0, 1), 0);
        CHECKS.same("session", Checks.session(house, 0), "0 0 0 70 0");
    }

    private static void longSessions() {
        TicketHouse house = withUser();
        house.tick(3);
        house.login(0, 5, false);
        house.login(0, 5, true);
        useFor(house, 0, 120);
        CHECKS.same("120 after login", house.session(0, 1), 1);
        house.ticket(1, 2);
        house.tick(1);
        CHECKS.same("121 after login", house.session(0, 1), 0);
        CHECKS.same("remembered, 121 after login", house.session(1, 1), 1);
        house.tick(19);
        useFor(house, 1, 260);
        CHECKS.same("remembered, 400 after login", house.session(1, 1), 1);
        house.tick(1);
        CHECKS.same("remembered, 401 after login", house.session(1, 1), 0);
    }

    private static void useFor(TicketHouse house, int session, int time) {
        for (int passed = 0; passed < time; passed += 20) {
            house.tick(20);
            house.ticket(session, 2);
        }
    }

    private static void endsInOrder() {
        TicketHouse house = withUser();
        house.login(0, 5, true);
        house.tick(15);
        house.login(0, 5, false);
        house.login(0, 5, false);
        house.ticket(2, 1);
        house.ticket(1, 1);
        house.ticket(0, 0);
        house.ticket(2, 0);
        house.ticket(1, 2);
        house.ticket(1, 0);
        // One tick ends all: by rising sessions, and in each by rising tickets.
        CHECKS.same("tick(200)", house.tick(200), 215);
        CHECKS.same("messages", Checks.messages(house), "2 1001 5 1000 3");
        for (int n = 0; n < 3; n++) {
            CHECKS.same("session " + n, house.session(n, 1), 0);
        }
    }

    private static void endsOnce() {
        TicketHouse house = withUser();
        house.enter(0, 5, 0);
        house.logout(0);
        house.enter(0, 5, 1);
        house.tick(31);
        house.tick(200);
        house.tick(200);
        CHECKS.same("messages", Checks.messages(house), "0 1001");
    }

    private static void aHouseFullOfMessages() {
        TicketHouse house = withUser();
        house.login(0, 5, false);
        for (int t = 0; t < 150; t++) {
            house.ticket(0, 1);
        }
        CHECKS.same("logout with 150 tickets", house.logout(0), 150);
        CHECKS.same("message(149)", house.message(149), 1149);
        CHECKS.same("message(150)", house.message(150), TicketHouse.NONE);
    }

    private static void noSuchSession() {
        TicketHouse house = withUser();
        house.login(0, 5, true);
        for (int n : new int[] {1, -1, 40, Integer.MIN_VALUE, Integer.MAX_VALUE}) {
            for (int what = -1; what <= 5; what++) {
                CHECKS.same("session(" + n + ", " + what + ")", house.session(n, what),
                        TicketHouse.NONE);
            }
        }
        for (int what : new int[] {-1, 5, Integer.MIN_VALUE, Integer.MAX_VALUE}) {
            CHECKS.same("session(0, " + what + ")", house.session(0, what), TicketHouse.NONE);
        }
    }

    private static void noSuchMessage() {
        TicketHouse house = withUser();
        house.enter(0, 5, 0);
        CHECKS.same("message(0) before the end", house.message(0), TicketHouse.NONE);
        house.logout(0);
        CHECKS.same("message(0)", house.message(0), 0);
        for (int i : new int[] {1, -1, 150, Integer.MIN_VALUE, Integer.MAX_VALUE}) {
            CHECKS.same("message(" + i + ")", house.message(i), TicketHouse.NONE);
        }
    }
}
