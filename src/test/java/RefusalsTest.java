/**
 * "All that is refused by an exception changes nothing; IllegalArgumentException is tested before
 * IllegalStateException." For each call that can throw both: every cause of the one together with
 * every cause of the other. That nothing changes is looked at with every refusal in all tests.
 */
public final class RefusalsTest {
    private static final Checks CHECKS = new Checks();
    private static final int[] NO_SERVICES = {-1, 2, 3, 5, 6, Integer.MIN_VALUE, Integer.MAX_VALUE};
    private static final int[] NOBODY = {-1, 4, Integer.MIN_VALUE, Integer.MAX_VALUE};

    public static void main(String[] args) {
        CHECKS.holds("2: letter, both causes", RefusalsTest::letter);
        CHECKS.holds("7: login, both causes", RefusalsTest::login);
        CHECKS.holds("8: enter, both causes", RefusalsTest::enter);
        CHECKS.holds("9: ticket, both causes", RefusalsTest::ticket);
        CHECKS.holds("10: proxy, both causes", RefusalsTest::proxy);
        CHECKS.holds("12: logout, both causes", RefusalsTest::logout);
        CHECKS.holds("All that is refused by an exception changes nothing", RefusalsTest::nothing);
        CHECKS.end("refusals");
    }

    private static void letter() {
        House full = new House();
        Scenes.draft(full, "ABCDEFGH");
        CHECKS.badState("letter(65), full", full, h -> h.letter(65));
        CHECKS.badOutside("letter(#), full", full, 32, 126, (h, c) -> h.letter(c));
    }

    private static void login() {
        House full = Scenes.fullOfSessions();
        CHECKS.badState("login(0, 5, false), full", full, h -> h.login(0, 5, false));
        CHECKS.badState("login(3, 5, false), full", full, h -> h.login(3, 5, false));
        CHECKS.badOutside("login(#, 5, false), full", full, 0, 3, (h, u) -> h.login(u, 5, false));
    }

    private static House fullOfBoth() {
        House house = Scenes.fullOfSessions();
        for (int t = 0; t < 150; t++) {
            house.ticket(0, 0);
        }
        return house;
    }

    private static void enter() {
        for (House full : new House[] {Scenes.fullOfSessions(), Scenes.fullOfTickets(),
            fullOfBoth()}) {
            for (int word : new int[] {5, 6}) {
                CHECKS.badState("enter(0, .., 0), full", full, h -> h.enter(0, word, 0));
                for (int s : NO_SERVICES) {
                    CHECKS.badArgument("enter(0, .., " + s + "), full", full,
                            h -> h.enter(0, word, s));
                }
                for (int u : NOBODY) {
                    CHECKS.badArgument("enter(" + u + ", .., 0), full", full,
                            h -> h.enter(u, word, 0));
                    CHECKS.badArgument("enter(" + u + ", .., 2), full", full,
                            h -> h.enter(u, word, 2));
                }
            }
        }
    }

    private static void ticket() {
        House out = Scenes.granting();
        out.logout(0);
        House late = Scenes.granting();
        late.tick(151);
        House full = Scenes.fullOfTickets();
        House both = full.again();
        both.logout(0);
        for (House house : new House[] {out, late, full, both}) {
            CHECKS.badState("ticket(0, 0)", house, h -> h.ticket(0, 0));
            for (int s : NO_SERVICES) {
                CHECKS.badArgument("ticket(0, " + s + ")", house, h -> h.ticket(0, s));
                CHECKS.badArgument("ticket(1, " + s + ")", house, h -> h.ticket(1, s));
            }
            CHECKS.badOutside("ticket(#, 0)", house, 0, 0, (h, n) -> h.ticket(n, 0));
        }
    }

    private static void proxy() {
        House out = Scenes.granting();
        out.logout(0);
        House late = Scenes.granting();
        late.tick(61);
        House full = Scenes.fullOfTickets();
        House both = full.again();
        both.tick(61);
        for (House house : new House[] {out, late, full, both}) {
            CHECKS.badState("proxy(1, 0)", house, h -> h.proxy(1, 0));
            for (int s : NO_SERVICES) {
                CHECKS.badArgument("proxy(1, " + s + ")", house, h -> h.proxy(1, s));
                CHECKS.badArgument("proxy(0, " + s + ")", house, h -> h.proxy(0, s));
            }
            CHECKS.badArgument("proxy(0, 0), a dead service ticket", house, h -> h.proxy(0, 0));
            for (int g : new int[] {-1, 150, Integer.MIN_VALUE, Integer.MAX_VALUE}) {
                CHECKS.badArgument("proxy(" + g + ", 0)", house, h -> h.proxy(g, 0));
            }
        }
        CHECKS.badArgument("proxy(2, 0), a proxy ticket, full", full, h -> h.proxy(2, 0));
        CHECKS.badArgument("proxy(148, 0), a service ticket, full", full, h -> h.proxy(148, 0));
    }

    private static void logout() {
        House ended = Scenes.fullOfSessions();
        ended.tick(31);
        CHECKS.badState("logout(0)", ended, h -> h.logout(0));
        CHECKS.badState("logout(39)", ended, h -> h.logout(39));
        CHECKS.badOutside("logout(#), all have ended", ended, 0, 39, (h, n) -> h.logout(n));
    }

    /** A house in which there is something of everything, and every kind of refusal on it. */
    private static void nothing() {
        House house = Scenes.granting();
        for (int which = 0; which <= 3; which++) {
            Scenes.text(house, 0, which, "text" + which);
        }
        Scenes.lock(house, 1);
        house.password(3, 5);
        house.login(3, 6, false);
        house.login(3, 6, false);
        house.service(4, 7);
        house.callback(2, false);
        house.enter(0, 5, 4);
        house.logout(1);
        house.ticket(0, 0);
        house.proxy(1, 0);
        house.tick(5);
        Scenes.draft(house, "ABCDEFGH");
        CHECKS.badArgument("letter(127)", house, h -> h.letter(127));
        CHECKS.badArgument("text(4, 3)", house, h -> h.text(4, 3));
        CHECKS.badArgument("text(0, 4)", house, h -> h.text(0, 4));
        CHECKS.badArgument("password(4, 9)", house, h -> h.password(4, 9));
        CHECKS.badArgument("password(-1, 9)", house, h -> h.password(-1, 9));
        CHECKS.badArgument("service(6, 63)", house, h -> h.service(6, 63));
        CHECKS.badArgument("service(0, 64)", house, h -> h.service(0, 64));
        CHECKS.badArgument("callback(0, false)", house, h -> h.callback(0, false));
        CHECKS.badArgument("callback(6, false)", house, h -> h.callback(6, false));
        CHECKS.badArgument("login(4, 5, true)", house, h -> h.login(4, 5, true));
        CHECKS.badArgument("enter(4, 5, 0)", house, h -> h.enter(4, 5, 0));
        CHECKS.badArgument("enter(0, 5, 2)", house, h -> h.enter(0, 5, 2));
        CHECKS.badArgument("enter(3, 6, 2)", house, h -> h.enter(3, 6, 2));
        CHECKS.badArgument("ticket(2, 0)", house, h -> h.ticket(2, 0));
        CHECKS.badArgument("ticket(0, 2)", house, h -> h.ticket(0, 2));
        CHECKS.badArgument("proxy(0, 0)", house, h -> h.proxy(0, 0));
        CHECKS.badArgument("proxy(1, 2)", house, h -> h.proxy(1, 2));
        CHECKS.badArgument("validate(3, 0, 8, 1)", house, h -> h.validate(3, 0, 8, 1));
        CHECKS.badArgument("validate(3, 0, 0, 6)", house, h -> h.validate(3, 0, 0, 6));
        CHECKS.badArgument("logout(2)", house, h -> h.logout(2));
        CHECKS.badArgument("tick(0)", house, h -> h.tick(0));
        CHECKS.badArgument("tick(201)", house, h -> h.tick(201));
        CHECKS.badState("letter(65)", house, h -> h.letter(65));
        CHECKS.badState("ticket(1, 0)", house, h -> h.ticket(1, 0));
        CHECKS.badState("logout(1)", house, h -> h.logout(1));
        house.tick(56);
        CHECKS.badState("proxy(1, 0)", house, h -> h.proxy(1, 0));
    }
}
