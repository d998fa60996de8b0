/** Promises 9 (ticket), 10 (proxy) and 16 (about). */
public final class TicketsTest {
    private static final Checks CHECKS = new Checks();

    public static void main(String[] args) {
        ticketUsesItsSession();
        ticketRefuses();
        ticketOfEndedSession();
        proxyUsesItsSession();
        proxyRefuses();
        deadGrantingTicket();
        fullOfTickets();
        chains();
        goodAndDead();
        noSuchTicket();
        CHECKS.end("tickets");
    }

    /** Session 0 is open since 0; ticket 0 was asked for; ticket 1 is granting, for callback 3. */
    private static TicketHouse withGranting() {
        TicketHouse house = new TicketHouse();
        house.password(0, 5);
        house.service(0, 3);
        house.service(4, 1);
        house.login(0, 5, true);
        house.ticket(0, 0);
        house.validate(0, 0, 0, 3);
        return house;
    }

    private static void ticketUsesItsSession() {
        TicketHouse house = new TicketHouse();
        house.password(0, 5);
        house.service(4, 1);
        house.login(0, 5, false);
        house.login(0, 5, false);
        house.tick(9);
        CHECKS.same("ticket(1, 4)", house.ticket(1, 4), 0);
        CHECKS.same("about it", Checks.ticket(house, 0), "0 1 1 4 9 0 -1 0");
        CHECKS.same("its session", Checks.session(house, 1), "0 1 0 9 0");
        CHECKS.same("the other session", Checks.session(house, 0), "0 1 0 0 0");
        CHECKS.same("ticket(0, 4)", house.ticket(0, 4), 1);
        CHECKS.same("house(2)", house.house(2), 2);
    }

    private static void ticketRefuses() {
        TicketHouse house = withGranting();
        house.service(2, 62);
        house.tick(1);
        for (int n : new int[] {1, -1, 40, Integer.MIN_VALUE, Integer.MAX_VALUE}) {
            CHECKS.badArgument("ticket(" + n + ", 0)", house, () -> house.ticket(n, 0));
        }
        for (int s : new int[] {1, 2, 6, -1, Integer.MIN_VALUE, Integer.MAX_VALUE}) {
            CHECKS.badArgument("ticket(0, " + s + ")", house, () -> house.ticket(0, s));
        }
    }

    private static void ticketOfEndedSession() {
        TicketHouse house = withGranting();
        house.logout(0);
        house.tick(1);
        CHECKS.badState("ticket(0, 0)", house, () -> house.ticket(0, 0));
        CHECKS.badArgument("ticket(0, 1)", house, () -> house.ticket(0, 1));
    }

    private static void proxyUsesItsSession() {
        TicketHouse house = withGranting();
        house.tick(7);
        CHECKS.same("proxy(1, 4)", house.proxy(1, 4), 2);
        CHECKS.same("about it", Checks.ticket(house, 2), "1 1 0 4 7 0 1 1");
        CHECKS.same("its session", Checks.session(house, 0), "0 1 0 7 1");
        CHECKS.same("proxy(1, 0)", house.proxy(1, 0), 3);
        CHECKS.same("about the granting one", Checks.ticket(house, 1), "2 1 0 3 0 0 0 1");
    }

    private static void proxyRefuses() {
        TicketHouse house = withGranting();
        house.service(2, 62);
        house.proxy(1, 4);
        house.tick(1);
        for (int g : new int[] {0, 2, 3, -1, 150, Integer.MIN_VALUE, Integer.MAX_VALUE}) {
            CHECKS.badArgument("proxy(" + g + ", 4)", house, () -> house.proxy(g, 4));
        }
        for (int s : new int[] {1, 2, 6, -1, Integer.MIN_VALUE, Integer.MAX_VALUE}) {
            CHECKS.badArgument("proxy(1, " + s + ")", house, () -> house.proxy(1, s));
        }
    }

    private static void deadGrantingTicket() {
        TicketHouse house = withGranting();
        house.tick(60);
        CHECKS.same("proxy, 60 later", house.proxy(1, 4), 2);
        house.tick(1);
        CHECKS.same("good, 61 later", house.about(1, 1), 0);
        CHECKS.badState("proxy, 61 later", house, () -> house.proxy(1, 4));
        CHECKS.badArgument("proxy for no service, 61 later", house, () -> house.proxy(1, 1));
        TicketHouse ended = withGranting();
        ended.logout(0);
        CHECKS.badState("proxy of an ended session", ended, () -> ended.proxy(1, 4));
    }

    private static void fullOfTickets() {
        TicketHouse house = withGranting();
        for (int t = 2; t < 150; t++) {
            CHECKS.same("ticket", t % 2 == 0 ? house.ticket(0, 0) : house.proxy(1, 4), t);
        }
        house.tick(1);
        CHECKS.badState("ticket with 150", house, () -> house.ticket(0, 0));
        CHECKS.badState("proxy with 150", house, () -> house.proxy(1, 0));
        CHECKS.badArgument("ticket(1, 0) with 150", house, () -> house.ticket(1, 0));
        CHECKS.badArgument("proxy(0, 0) with 150", house, () -> house.proxy(0, 0));
        CHECKS.same("validate with 150", house.validate(148, 0, 0, 3), 0);
        CHECKS.same("no granting ticket", Checks.document(house),
                "<ok u=\"\"><d>0</d><l>1</l><n>0</n></ok>");
        CHECKS.same("house(2)", house.house(2), 150);
        CHECKS.same("about(150, 0)", house.about(150, 0), TicketHouse.NONE);
    }

    private static void chains() {
        TicketHouse house = withGranting();
        int granting = 1;
        for (int depth = 1; depth <= 74; depth++) {
            int proxy = house.proxy(granting, 0);
            CHECKS.same("chain of the proxy ticket", house.about(proxy, 7), depth);
            CHECKS.same("from the granting ticket", house.about(proxy, 6), granting);
            if (depth == 74) {
                break;
            }
            house.validate(proxy, 0, 2, 1 + depth % 5);
            granting = proxy + 1;
            CHECKS.same("chain of the granting ticket", house.about(granting, 7), depth + 1);
            CHECKS.same("from the proxy ticket", house.about(granting, 6), proxy);
        }
        // The longest chain that 150 tickets can make, latest callback first.
        StringBuilder due = new StringBuilder("<ok u=\"\"><d>0</d><l>1</l><n>0</n><g>149</g>");
        for (int depth = 73; depth >= 1; depth--) {
            due.append("<p>").append(1 + depth % 5).append("</p>");
        }
        CHECKS.same("validate of the longest chain", house.validate(148, 0, 2, 4), 0);
        CHECKS.same("its document", Checks.document(house), due.append("<p>3</p></ok>").toString());
    }

    private static void goodAndDead() {
        TicketHouse house = withGranting();
        CHECKS.same("dead when one has asked", house.about(0, 1), 0);
        house.ticket(0, 0);
        house.proxy(1, 0);
        house.tick(10);
        CHECKS.same("a service ticket, 10 later", house.about(2, 1), 1);
        CHECKS.same("a proxy ticket, 10 later", house.about(3, 1), 1);
        house.tick(1);
        CHECKS.same("a service ticket, 11 later", house.about(2, 1), 0);
        CHECKS.same("a proxy ticket, 11 later", house.about(3, 1), 0);
        house.ticket(0, 0);
        house.proxy(1, 0);
        house.logout(0);
        for (int t = 0; t < 6; t++) {
            CHECKS.same("ticket " + t + " of an ended session", house.about(t, 1), 0);
        }
    }

    private static void noSuchTicket() {
        TicketHouse house = withGranting();
        for (int t : new int[] {2, -1, 150, Integer.MIN_VALUE, Integer.MAX_VALUE}) {
            for (int what = -1; what <= 8; what++) {
                CHECKS.same("about(" + t + ", " + what + ")", house.about(t, what),
                        TicketHouse.NONE);
            }
        }
        for (int what : new int[] {-1, 8, Integer.MIN_VALUE, Integer.MAX_VALUE}) {
            CHECKS.same("about(0, " + what + ")", house.about(0, what), TicketHouse.NONE);
        }
    }
}
