/** Promise 11 (validate): the codes, their order, and what asking for a ticket does. */
public final class ValidateTest {
    private static final Checks CHECKS = new Checks();
    private static final int PLAIN = 0;
    private static final int FRESH = 1;
    private static final int PROXY = 2;
    private static final int GRANTING = 3;

    public static void main(String[] args) {
        CHECKS.holds("1 there are no such ticket", ValidateTest::noSuchTicket);
        CHECKS.holds("1 or no such service", ValidateTest::noSuchService);
        CHECKS.holds("1 or the service is not enabled", ValidateTest::notEnabled);
        CHECKS.holds("2 it is a granting ticket", ValidateTest::grantingTicket);
        CHECKS.holds("2 or a proxy ticket and proxies are not accepted", ValidateTest::proxyTicket);
        CHECKS.holds("3 it is dead", ValidateTest::dead);
        CHECKS.holds("4 it was given for another service", ValidateTest::anotherService);
        CHECKS.holds("5 renewal is wanted, and it is not fresh", ValidateTest::notFresh);
        CHECKS.holds("0 otherwise", ValidateTest::accepted);
        CHECKS.holds("the first that holds", ValidateTest::firstThatHolds);
        CHECKS.holds("In all cases but 1, 2 a ticket for which one has asked is dead then; with "
                + "code 0 its session is used now", ValidateTest::allCases);
        CHECKS.holds("With code 0 and a callback that works, when the service may use proxies",
                ValidateTest::whoIsGranted);
        CHECKS.holds("and there are less than 150 tickets: a granting ticket is GIVEN",
                ValidateTest::lastGranted);
        CHECKS.holds("a granting ticket is given now, for the callback, of the session, from the "
                + "ticket for which one had asked", ValidateTest::whatIsGranted);
        CHECKS.holds("11: how is not 0 .. 7", ValidateTest::wrongWishes);
        CHECKS.holds("11: or c is not 0 .. 5", ValidateTest::wrongCallbacks);
        CHECKS.holds("11: nothing is full for one who asks", ValidateTest::fullHouses);
        CHECKS.end("validate");
    }

    /**
     * Session 0 since 4 and used last then. Ticket 0 was asked for, 1 is granting, and 2, for
     * service 0, is a proxy ticket or a service ticket that is not fresh. The clock is 5.
     */
    private static House withTicket(int kind) {
        House house = Scenes.start();
        house.tick(4);
        house.login(0, 5, false);
        house.validate(house.ticket(0, 0), 0, 0, 5);
        if (kind == PROXY) {
            house.proxy(1, 0);
        } else {
            house.ticket(0, 0);
        }
        house.tick(1);
        return house;
    }

    private static void noSuchTicket() {
        House house = withTicket(PLAIN);
        for (int t : Checks.outside(0, 2)) {
            House asked = house.again();
            CHECKS.same("validate(" + t + ", 0, 2, 1)", asked.validate(t, 0, 2, 1), 1);
            CHECKS.same("house(2)", asked.house(2), 3);
        }
        CHECKS.same("validate(2, 0, 2, 1)", house.validate(2, 0, 2, 1), 0);
        House full = Scenes.fullOfTickets();
        for (int t : Checks.outside(0, 149)) {
            CHECKS.same("validate(" + t + ", 0, 2, 0)", full.validate(t, 0, 2, 0), 1);
        }
        CHECKS.same("validate(149, 0, 2, 0)", full.validate(149, 0, 2, 0), 0);
    }

    private static void noSuchService() {
        House house = withTicket(PLAIN);
        for (int s : Checks.outside(0, 5)) {
            CHECKS.same("validate(2, " + s + ", 0, 0)", house.validate(2, s, 0, 0), 1);
        }
        CHECKS.same("validate(2, 0, 0, 0)", house.validate(2, 0, 0, 0), 0);
        for (int s : new int[] {0, 5}) {
            House end = Scenes.start();
            end.service(s, 1);
            CHECKS.same("validate for " + s, end.validate(end.enter(0, 5, s), s, 0, 0), 0);
        }
    }

    private static void notEnabled() {
        House house = withTicket(PLAIN);
        for (int s = 2; s <= 5; s++) {
            CHECKS.same("validate(2, " + s + ", 0, 0)", house.validate(2, s, 0, 0), 1);
        }
        house.service(0, 62);
        CHECKS.same("no more enabled", house.validate(2, 0, 0, 0), 1);
        house.service(0, 1);
        CHECKS.same("the ticket stays good", house.about(2, 1), 1);
        CHECKS.same("the session is not used", house.session(0, 3), 4);
        CHECKS.same("enabled again", house.validate(2, 0, 0, 0), 0);
    }

    private static void grantingTicket() {
        House house = withTicket(PLAIN);
        for (int how = 0; how <= 7; how++) {
            for (int c = 0; c <= 5; c++) {
                CHECKS.same("validate(1, 0, " + how + ", " + c + ")",
                        house.validate(1, 0, how, c), 2);
            }
        }
        CHECKS.same("the granting ticket stays good", house.about(1, 1), 1);
        CHECKS.same("proxy", house.proxy(1, 1), 3);
    }

    private static void proxyTicket() {
        House house = withTicket(PROXY);
        for (int how : new int[] {0, 1, 4, 5}) {
            CHECKS.same("validate(2, 0, " + how + ", 1)", house.validate(2, 0, how, 1), 2);
        }
        CHECKS.same("the proxy ticket stays good", house.about(2, 1), 1);
        CHECKS.same("house(2)", house.house(2), 3);
        CHECKS.same("accepted", house.again().validate(2, 0, 2, 1), 0);
        CHECKS.same("accepted, with attributes", house.again().validate(2, 0, 6, 1), 0);
        CHECKS.same("a service ticket needs no proxies", withTicket(PLAIN).validate(2, 0, 0, 1), 0);
    }

    private static void dead() {
        House late = withTicket(PLAIN);
        late.tick(9);
        CHECKS.same("10 after it was given", late.again().validate(2, 0, 0, 0), 0);
        late.tick(1);
        CHECKS.same("11 after it was given", late.validate(2, 0, 0, 0), 3);
        for (int code : new int[] {0, 4, 5}) {
            House asked = withTicket(PLAIN);
            CHECKS.same("first code", asked.validate(2, code == 4 ? 1 : 0, code == 5 ? 1 : 0, 0),
                    code);
            CHECKS.same("second code", asked.validate(2, 0, 0, 0), 3);
        }
        House out = withTicket(PLAIN);
        out.logout(0);
        CHECKS.same("of an ended session", out.validate(2, 0, 0, 0), 3);
    }

    private static void anotherService() {
        for (int kind : new int[] {PLAIN, PROXY}) {
            House house = withTicket(kind);
            CHECKS.same("validate(2, 1, 2, 0)", house.validate(2, 1, 2, 0), 4);
            CHECKS.same("good", house.about(2, 1), 0);
            CHECKS.same("validate(2, 0, 2, 0)", house.validate(2, 0, 2, 0), 3);
        }
    }

    private static void notFresh() {
        CHECKS.same("a plain one", withTicket(PLAIN).validate(2, 0, 1, 0), 5);
        CHECKS.same("a proxy ticket", withTicket(PROXY).validate(2, 0, 3, 0), 5);
        House fromFresh = Scenes.start();
        fromFresh.validate(fromFresh.enter(0, 5, 0), 0, 1, 1);
        CHECKS.same("a proxy ticket from a fresh one",
                fromFresh.validate(fromFresh.proxy(1, 0), 0, 3, 0), 5);
        for (int how = 0; how <= 7; how++) {
            House house = Scenes.start();
            CHECKS.same("a fresh one", house.validate(house.enter(0, 5, 0), 0, how, 0), 0);
        }
    }

    private static void accepted() {
        for (int how = 0; how <= 7; how++) {
            for (int c = 0; c <= 5; c++) {
                boolean renewal = how % 2 == 1;
                CHECKS.same("validate(2, 0, " + how + ", " + c + ")",
                        withTicket(PLAIN).validate(2, 0, how, c), renewal ? 5 : 0);
            }
        }
    }

    /** For each two codes a ticket to which both apply. */
    private static void firstThatHolds() {
        House proxy = withTicket(PROXY);
        CHECKS.same("1 and 2", proxy.again().validate(2, 2, 0, 0), 1);
        CHECKS.same("1 and 2, granting", proxy.again().validate(1, 2, 2, 0), 1);
        CHECKS.same("2 and 4", proxy.again().validate(2, 1, 0, 0), 2);
        CHECKS.same("2 and 5", proxy.again().validate(2, 0, 1, 0), 2);
        CHECKS.same("2, 4 and 5", proxy.again().validate(2, 1, 1, 0), 2);
        CHECKS.same("1, 4 and 5", proxy.again().validate(2, 2, 3, 0), 1);
        CHECKS.same("4 and 5", proxy.again().validate(2, 1, 3, 0), 4);
        CHECKS.same("1 and 4", proxy.again().validate(2, 2, 2, 0), 1);
        House closed = proxy.again();
        closed.service(0, 62);
        CHECKS.same("1 and 5", closed.validate(2, 0, 3, 0), 1);
        proxy.tick(11);
        CHECKS.same("1 and 3", proxy.again().validate(2, 2, 2, 0), 1);
        CHECKS.same("2 and 3", proxy.again().validate(2, 0, 0, 0), 2);
        CHECKS.same("3 and 4", proxy.again().validate(2, 1, 2, 0), 3);
        CHECKS.same("3 and 5", proxy.again().validate(2, 0, 3, 0), 3);
        CHECKS.same("3, 4 and 5", proxy.again().validate(2, 1, 3, 0), 3);
        CHECKS.same("2, 3, 4 and 5", proxy.again().validate(2, 1, 1, 0), 2);
        CHECKS.same("all", proxy.again().validate(2, 2, 1, 0), 1);
        proxy.logout(0);
        CHECKS.same("2 and 3, granting", proxy.again().validate(1, 0, 2, 0), 2);
    }

    private static void allCases() {
        for (int kind : new int[] {PLAIN, FRESH, PROXY, GRANTING}) {
            for (int death = 0; death <= 4; death++) {
                for (int s : new int[] {0, 1, 2, 6}) {
                    for (int how = 0; how <= 7; how++) {
                        oneCase(kind, death, s, how);
                    }
                }
            }
        }
    }

    private static void oneCase(int kind, int death, int s, int how) {
        House house = Scenes.granting();
        house.tick(3);
        int session = kind == FRESH ? 1 : 0;
        int t = given(house, kind);
        house.tick(1);
        bringDeath(house, death, t, session);
        int good = house.about(t, 1);
        int used = house.session(session, 3);
        int code = s == 2 || s == 6 ? 1
                : kind == GRANTING || kind == PROXY && (how & 2) == 0 ? 2
                : good == 0 ? 3 : s == 1 ? 4 : (how & 1) == 1 && kind != FRESH ? 5 : 0;
        String call = "kind " + kind + ", death " + death + ", validate(" + t + ", " + s + ", "
                + how + ", 0)";
        CHECKS.same(call, house.validate(t, s, how, 0), code);
        CHECKS.same("good after " + call, house.about(t, 1), code == 1 || code == 2 ? good : 0);
        CHECKS.same("used after " + call, house.session(session, 3),
                code == 0 ? house.house(0) : used);
        if (code != 0) {
            CHECKS.same("document of " + call, Reading.document(house),
                    "<no c=\"" + code + "\">" + t + "</no>");
        }
    }

    private static int given(House house, int kind) {
        switch (kind) {
            case PLAIN: return house.ticket(0, 0);
            case FRESH: return house.enter(0, 5, 0);
            case PROXY: return house.proxy(1, 0);
            default: return 1;
        }
    }

    private static void bringDeath(House house, int death, int t, int session) {
        if (death == 1) {
            house.tick(t == 1 ? 57 : 10);
        } else if (death == 2) {
            house.validate(t, 0, 2, 0);
            house.tick(1);
        } else if (death == 3) {
            house.logout(session);
        } else if (death == 4) {
            house.tick(151);
        }
        boolean asksInVain = t == 1 && death == 2;
        CHECKS.same("good, death " + death, house.about(t, 1), death == 0 || asksInVain ? 1 : 0);
    }

    private static void whoIsGranted() {
        for (int c = 0; c <= 5; c++) {
            for (int broken = 0; broken <= 5; broken++) {
                for (int flags : new int[] {1, 3, 61, 63}) {
                    House house = withTicket(PLAIN);
                    if (broken > 0) {
                        house.callback(broken, false);
                    }
                    house.service(0, flags);
                    CHECKS.same("validate", house.validate(2, 0, 0, c), 0);
                    boolean due = c > 0 && c != broken && (flags & 2) != 0;
                    CHECKS.same("house(2), callback " + c + ", broken " + broken + ", flags "
                            + flags, house.house(2), due ? 4 : 3);
                }
            }
        }
        for (int code : new int[] {4, 5}) {
            House house = withTicket(PLAIN);
            house.service(1, 3);
            house.validate(2, code == 4 ? 1 : 0, code == 5 ? 1 : 0, 1);
            CHECKS.same("house(2), code " + code, house.house(2), 3);
            house.validate(2, 0, 0, 1);
            CHECKS.same("house(2), code 3", house.house(2), 3);
        }
    }

    private static void lastGranted() {
        for (int before = 148; before <= 150; before++) {
            House house = Scenes.granting();
            for (int t = 2; t < before; t++) {
                house.ticket(0, 0);
            }
            house.tick(2);
            CHECKS.same("validate with " + before, house.validate(147, 0, 0, 4), 0);
            CHECKS.same("house(2)", house.house(2), before == 148 ? 149 : 150);
            CHECKS.same("session(0, 3)", house.session(0, 3), 2);
            String given = before == 150 ? "" : "<g>" + before + "</g>";
            CHECKS.same("document", Reading.document(house),
                    "<ok u=\"\"><d>0</d><l>1</l><n>0</n>" + given + "</ok>");
        }
    }

    private static void whatIsGranted() {
        House house = withTicket(PLAIN);
        house.tick(1);
        house.validate(2, 0, 0, 1);
        CHECKS.same("from a service ticket", Reading.ticket(house, 3), "2 1 0 1 6 0 2 1");
        house.proxy(3, 0);
        house.tick(1);
        house.validate(4, 0, 2, 2);
        CHECKS.same("from a proxy ticket", Reading.ticket(house, 5), "2 1 0 2 7 0 4 2");
        house.login(0, 5, true);
        house.validate(house.ticket(1, 0), 0, 0, 5);
        CHECKS.same("of another session", Reading.ticket(house, 7), "2 1 1 5 7 0 6 1");
    }

    private static void wrongWishes() {
        House house = withTicket(PLAIN);
        house.validate(99, 0, 0, 0);
        CHECKS.badOutside("validate(2, 0, #, 0)", house, 0, 7, (h, x) -> h.validate(2, 0, x, 0));
        CHECKS.badOutside("validate(2, 0, #, 5)", house, 0, 7, (h, x) -> h.validate(2, 0, x, 5));
        CHECKS.badOutside("validate(9, 0, #, 0)", house, 0, 7, (h, x) -> h.validate(9, 0, x, 0));
        CHECKS.badOutside("validate(2, 6, #, 0)", house, 0, 7, (h, x) -> h.validate(2, 6, x, 0));
        CHECKS.same("validate(2, 0, 0, 0)", house.again().validate(2, 0, 0, 0), 0);
        CHECKS.same("validate(2, 0, 7, 0)", house.again().validate(2, 0, 7, 0), 5);
    }

    private static void wrongCallbacks() {
        House house = withTicket(PLAIN);
        house.validate(99, 0, 0, 0);
        CHECKS.badOutside("validate(2, 0, 0, #)", house, 0, 5, (h, c) -> h.validate(2, 0, 0, c));
        CHECKS.badOutside("validate(2, 0, 7, #)", house, 0, 5, (h, c) -> h.validate(2, 0, 7, c));
        CHECKS.badOutside("validate(9, 0, 0, #)", house, 0, 5, (h, c) -> h.validate(9, 0, 0, c));
        CHECKS.badOutside("validate(2, 1, 0, #)", house, 0, 5, (h, c) -> h.validate(2, 1, 0, c));
        CHECKS.badOutside("validate(2, 0, #, #)", house, 0, 7, (h, x) -> h.validate(2, 0, x, x));
        CHECKS.same("validate(2, 0, 0, 0)", house.again().validate(2, 0, 0, 0), 0);
        CHECKS.same("validate(2, 0, 0, 5)", house.again().validate(2, 0, 0, 5), 0);
    }

    private static void fullHouses() {
        House tickets = Scenes.fullOfTickets();
        CHECKS.same("150 tickets, code 0", tickets.validate(148, 0, 0, 3), 0);
        CHECKS.same("150 tickets, code 3", tickets.validate(148, 0, 0, 3), 3);
        CHECKS.same("150 tickets, code 1", tickets.validate(150, 0, 0, 3), 1);
        House sessions = Scenes.fullOfSessions();
        CHECKS.same("40 sessions", sessions.validate(sessions.ticket(0, 0), 0, 0, 3), 0);
        CHECKS.same("house(2)", sessions.house(2), 2);
    }
}
