/** Promises 4 (password), 7 (login) and 8 (enter), and the tries of users. */
public final class LoginTest {
    private static final Checks CHECKS = new Checks();

    public static void main(String[] args) {
        loginOpensSessions();
        passwords();
        userWithoutPassword();
        threeWrongTriesLock();
        rightTryForgets();
        lockEndsByClock();
        twoWrongTriesStay();
        passwordUnlocks();
        usersAreApart();
        fortySessions();
        enterGivesFreshTickets();
        enterCountsTries();
        enterRefuses();
        enterWithoutRoom();
        CHECKS.end("login");
    }

    private static void loginOpensSessions() {
        TicketHouse house = new TicketHouse();
        house.password(3, -7);
        house.password(0, 0);
        house.tick(5);
        CHECKS.same("login(3, -7, true)", house.login(3, -7, true), 0);
        house.tick(2);
        CHECKS.same("login(0, 0, false)", house.login(0, 0, false), 1);
        CHECKS.same("session 0", Checks.session(house, 0), "3 1 5 5 1");
        CHECKS.same("session 1", Checks.session(house, 1), "0 1 7 7 0");
        CHECKS.same("house(1)", house.house(1), 2);
        CHECKS.same("house(2)", house.house(2), 0);
        for (int u : new int[] {4, -1, Integer.MIN_VALUE, Integer.MAX_VALUE}) {
            CHECKS.badArgument("login(" + u + ", 0, false)", house, () -> house.login(u, 0, false));
        }
    }

    private static void passwords() {
        TicketHouse house = new TicketHouse();
        int[] words = {0, -1, Integer.MIN_VALUE, Integer.MAX_VALUE};
        for (int u = 0; u < 4; u++) {
            CHECKS.same("password(" + u + ")", house.password(u, words[u]), true);
            CHECKS.same("login of " + u, house.login(u, words[u], false), u);
        }
        CHECKS.same("password(1, 9)", house.password(1, 9), true);
        CHECKS.same("login with the old one", house.login(1, -1, false), TicketHouse.WRONG);
        CHECKS.same("login with the new one", house.login(1, 9, false), 4);
        for (int u : new int[] {4, -1, Integer.MIN_VALUE, Integer.MAX_VALUE}) {
            CHECKS.badArgument("password(" + u + ", 0)", house, () -> house.password(u, 0));
        }
    }

    private static void userWithoutPassword() {
        TicketHouse house = new TicketHouse();
        house.service(0, 1);
        for (int i = 0; i < 5; i++) {
            CHECKS.same("login without a password", house.login(2, 0, true), TicketHouse.WRONG);
            CHECKS.same("enter without a password", house.enter(2, 0, 0), TicketHouse.WRONG);
            CHECKS.same("house(7)", house.house(7), 0);
        }
        house.password(2, 0);
        CHECKS.same("login with one", house.login(2, 0, true), 0);
    }

    private static void threeWrongTriesLock() {
        TicketHouse house = new TicketHouse();
        house.password(1, 5);
        for (int i = 1; i <= 3; i++) {
            CHECKS.same("wrong try " + i, house.login(1, 6, false), TicketHouse.WRONG);
            CHECKS.same("house(6)", house.house(6), i);
        }
        CHECKS.same("a right word while locked", house.login(1, 5, false), TicketHouse.LOCKED);
        CHECKS.same("a wrong word while locked", house.login(1, 6, false), TicketHouse.LOCKED);
        CHECKS.same("house(6) while locked", house.house(6), 3);
        CHECKS.same("house(1)", house.house(1), 0);
    }

    private static void rightTryForgets() {
        TicketHouse house = new TicketHouse();
        house.service(0, 1);
        house.password(1, 5);
        house.login(1, 6, false);
        house.login(1, 6, false);
        CHECKS.same("a right try", house.login(1, 5, false), 0);
        CHECKS.same("house(6) after it", house.house(6), 0);
        house.login(1, 6, false);
        house.login(1, 6, false);
        CHECKS.same("a right enter", house.enter(1, 5, 0), 0);
        CHECKS.same("house(6) after it", house.house(6), 0);
    }

    private static void lockEndsByClock() {
        TicketHouse house = new TicketHouse();
        house.password(1, 5);
        house.login(1, 6, false);
        house.tick(7);
        house.login(1, 6, false);
        house.tick(100);
        house.login(1, 6, false);
        house.tick(19);
        // A try while locked is none: it does not put off the end of the lock.
        CHECKS.same("19 later", house.login(1, 6, false), TicketHouse.LOCKED);
        house.tick(1);
        CHECKS.same("20 later", house.login(1, 5, false), TicketHouse.LOCKED);
        CHECKS.same("house(6), 20 later", house.house(6), 3);
        house.tick(1);
        CHECKS.same("house(6), 21 later", house.house(6), 0);
        CHECKS.same("a wrong try, 21 later", house.login(1, 6, false), TicketHouse.WRONG);
        CHECKS.same("house(6) after it", house.house(6), 1);
        CHECKS.same("a right try", house.login(1, 5, false), 0);
    }

    private static void twoWrongTriesStay() {
        TicketHouse house = new TicketHouse();
        house.password(1, 5);
        house.login(1, 6, false);
        house.login(1, 6, false);
        house.tick(200);
        CHECKS.same("house(6), 200 later", house.house(6), 2);
        house.login(1, 6, false);
        CHECKS.same("house(6), the third", house.house(6), 3);
        house.tick(20);
        CHECKS.same("20 after the third", house.login(1, 5, false), TicketHouse.LOCKED);
    }

    private static void passwordUnlocks() {
        TicketHouse house = new TicketHouse();
        house.password(1, 5);
        for (int i = 0; i < 3; i++) {
            house.login(1, 6, false);
        }
        CHECKS.same("password(1, 5)", house.password(1, 5), true);
        CHECKS.same("house(6)", house.house(6), 0);
        CHECKS.same("login", house.login(1, 5, false), 0);
        house.login(1, 6, false);
        house.password(1, 7);
        CHECKS.same("one wrong try, then a password", house.house(6), 0);
    }

    private static void usersAreApart() {
        TicketHouse house = new TicketHouse();
        for (int u = 0; u < 4; u++) {
            house.password(u, 5);
            for (int i = 0; i < u; i++) {
                house.login(u, 6, false);
            }
        }
        for (int u = 0; u < 4; u++) {
            CHECKS.same("wrong tries of user " + u, house.house(5 + u), u);
        }
        house.password(2, 1);
        CHECKS.same("user 3 is still locked", house.login(3, 5, false), TicketHouse.LOCKED);
        for (int u = 0; u < 4; u++) {
            house.password(u, 5);
            for (int i = 0; i < 3; i++) {
                house.login(u, 6, false);
            }
        }
        house.tick(21);
        for (int u = 0; u < 4; u++) {
            CHECKS.same("user " + u + " is locked no more", house.house(5 + u), 0);
        }
    }

    private static void fortySessions() {
        TicketHouse house = new TicketHouse();
        house.service(0, 1);
        house.password(0, 5);
        for (int n = 0; n < 40; n++) {
            CHECKS.same("login " + n, house.login(0, 5, false), n);
        }
        CHECKS.same("session(39, 1)", house.session(39, 1), 1);
        CHECKS.same("session(40, 1)", house.session(40, 1), TicketHouse.NONE);
        CHECKS.badArgument("ticket(40, 0)", house, () -> house.ticket(40, 0));
        CHECKS.badArgument("logout(40)", house, () -> house.logout(40));
        house.logout(39);
        CHECKS.badState("a right login", house, () -> house.login(0, 5, false));
        CHECKS.badState("a wrong login", house, () -> house.login(0, 6, false));
        CHECKS.badState("a login without a password", house, () -> house.login(1, 6, false));
        CHECKS.badState("enter", house, () -> house.enter(0, 5, 0));
        CHECKS.badArgument("login(4, 5, false)", house, () -> house.login(4, 5, false));
        CHECKS.badArgument("enter(0, 5, 1)", house, () -> house.enter(0, 5, 1));
        house.tick(200);
        CHECKS.badState("login when all have ended", house, () -> house.login(0, 5, false));
    }

    private static void enterGivesFreshTickets() {
        TicketHouse house = new TicketHouse();
        house.password(2, 5);
        house.service(5, 1);
        house.login(2, 5, true);
        house.ticket(0, 5);
        house.tick(3);
        CHECKS.same("enter(2, 5, 5)", house.enter(2, 5, 5), 1);
        CHECKS.same("its ticket", Checks.ticket(house, 1), "0 1 1 5 3 1 -1 0");
        CHECKS.same("its session", Checks.session(house, 1), "2 1 3 3 0");
    }

    private static void enterCountsTries() {
        TicketHouse house = new TicketHouse();
        house.password(2, 5);
        house.service(5, 1);
        for (int i = 1; i <= 3; i++) {
            CHECKS.same("wrong enter", house.enter(2, 4, 5), TicketHouse.WRONG);
            CHECKS.same("house(7)", house.house(7), i);
        }
        CHECKS.same("locked enter", house.enter(2, 5, 5), TicketHouse.LOCKED);
        CHECKS.same("house(1)", house.house(1), 0);
        CHECKS.same("house(2)", house.house(2), 0);
    }

    private static void enterRefuses() {
        TicketHouse house = new TicketHouse();
        house.password(0, 5);
        house.service(0, 1);
        house.service(1, 62);
        for (int u : new int[] {4, -1, Integer.MIN_VALUE, Integer.MAX_VALUE}) {
            CHECKS.badArgument("enter(" + u + ", 5, 0)", house, () -> house.enter(u, 5, 0));
        }
        for (int s : new int[] {1, 2, 6, -1, Integer.MIN_VALUE, Integer.MAX_VALUE}) {
            CHECKS.badArgument("enter(0, 5, " + s + ")", house, () -> house.enter(0, 5, s));
            CHECKS.badArgument("enter(0, 4, " + s + ")", house, () -> house.enter(0, 4, s));
        }
    }

    private static void enterWithoutRoom() {
        TicketHouse house = new TicketHouse();
        house.password(0, 5);
        house.service(0, 1);
        house.login(0, 5, false);
        for (int t = 0; t < 149; t++) {
            house.ticket(0, 0);
        }
        CHECKS.same("enter for the last ticket", house.enter(0, 5, 0), 149);
        CHECKS.badState("enter with 150 tickets", house, () -> house.enter(0, 5, 0));
        CHECKS.badState("a wrong enter with 150 tickets", house, () -> house.enter(0, 4, 0));
        CHECKS.badArgument("enter(0, 5, 1)", house, () -> house.enter(0, 5, 1));
        CHECKS.same("login needs no ticket", house.login(0, 5, false), 2);
    }
}
