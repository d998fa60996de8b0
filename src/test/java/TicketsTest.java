/** Promises 9 (ticket), 10 (proxy) and 16 (about): what tickets are, and how long they are good. */
public final class TicketsTest {
    private static final Checks CHECKS = new Checks();

    public static void main(String[] args) {
        CHECKS.holds("0 SERVICE, 1 PROXY tickets: both are dead when the clock is more than 10 "
                + "above the time when they were given", TicketsTest::shortLives);
        CHECKS.holds("and when one has asked for them", TicketsTest::askedFor);
        CHECKS.holds("2 GRANTING tickets: dead when the clock is more than 60 above the time when "
                + "they were given", TicketsTest::longLives);
        CHECKS.holds("a ticket's death is not that of another", TicketsTest::livesAreApart);
        CHECKS.holds("FRESH if given by enter()", TicketsTest::fresh);
        CHECKS.holds("The CHAIN of a service ticket is empty; that of a proxy ticket is that of "
                + "the granting ticket; that of a granting ticket is its callback and then the "
                + "chain of the ticket for which one had asked", TicketsTest::chains);
        CHECKS.holds("TICKETS (at most 150, of all kinds together)", TicketsTest::mostTickets);
        CHECKS.holds("9: A service ticket, not fresh, of a session, which is used now",
                TicketsTest::ticketOfASession);
        CHECKS.holds("9: there is no such session", TicketsTest::ticketOfNoSession);
        CHECKS.holds("9: no such service, or it is not enabled", TicketsTest::ticketForNoService);
        CHECKS.holds("9: the session has ended", TicketsTest::ticketOfAnEndedSession);
        CHECKS.holds("9: or there are 150 tickets", TicketsTest::ticketBeyondTheLast);
        CHECKS.holds("10: A proxy ticket from granting ticket g, whose session is used now",
                TicketsTest::proxyFromGranting);
        CHECKS.holds("10: there is no ticket g", TicketsTest::proxyFromNone);
        CHECKS.holds("10: it is of another kind", TicketsTest::proxyFromAnotherKind);
        CHECKS.holds("10: there is no such service, or it is not enabled",
                TicketsTest::proxyForNoService);
        CHECKS.holds("10: g is dead", TicketsTest::proxyFromADeadOne);
        CHECKS.holds("10: or there are 150 tickets", TicketsTest::proxyBeyondTheLast);
        CHECKS.holds("16: About ticket t, what 0 .. 7", TicketsTest::eachQuestion);
        CHECKS.holds("16: NONE when there is no such ticket", TicketsTest::noSuchTicket);
        CHECKS.holds("16: or what is not 0 .. 7", TicketsTest::noSuchQuestion);
        CHECKS.end("tickets");
    }

    /** As granting(), at 7 with fresh service ticket 2, service ticket 3 and proxy ticket 4. */
    private static House withAllKinds() {
        House house = Scenes.granting();
        house.tick(7);
        house.enter(0, 5, 0);
        house.ticket(0, 0);
        house.proxy(1, 0);
        return house;
    }

    private static void shortLives() {
        for (int t = 2; t <= 4; t++) {
            House bySteps = withAllKinds();
            for (int after = 1; after <= 30; after++) {
                House byOneTick = withAllKinds();
                byOneTick.tick(after);
                bySteps.tick(1);
                int due = after <= 10 ? 1 : 0;
                String when = "ticket " + t + ", " + after + " later";
                CHECKS.same(when, byOneTick.about(t, 1), due);
                CHECKS.same(when + " by steps", bySteps.about(t, 1), due);
                CHECKS.same("code of " + when, byOneTick.validate(t, 0, 2, 0), due == 1 ? 0 : 3);
                CHECKS.same("code of " + when + " by steps",
                        bySteps.again().validate(t, 0, 2, 0), due == 1 ? 0 : 3);
            }
        }
    }

    private static void askedFor() {
        for (int t = 2; t <= 4; t++) {
            House house = withAllKinds();
            CHECKS.same("good before", house.about(t, 1), 1);
            CHECKS.same("first code", house.validate(t, 0, 2, 0), 0);
            CHECKS.same("good after", house.about(t, 1), 0);
            CHECKS.same("second code", house.validate(t, 0, 2, 0), 3);
            CHECKS.same("third code", house.validate(t, 0, 2, 0), 3);
        }
    }

    /** Session 0 is remembered and lasts longer than its granting ticket 1. */
    private static void longLives() {
        House bySteps = Scenes.granting();
        for (int after = 1; after <= 140; after++) {
            House byOneTick = Scenes.granting();
            byOneTick.tick(after);
            bySteps.tick(1);
            int due = after <= 60 ? 1 : 0;
            CHECKS.same("granting, " + after + " later", byOneTick.about(1, 1), due);
            CHECKS.same("granting, step " + after, bySteps.about(1, 1), due);
            CHECKS.same("its session is open", byOneTick.session(0, 1), 1);
            if (due == 1) {
                CHECKS.same("proxy", byOneTick.proxy(1, 0), 2);
            } else if (after < 64) {
                CHECKS.badState("proxy, " + after + " later", byOneTick, h -> h.proxy(1, 0));
            }
        }
    }

    /** A proxy ticket outlives its granting ticket, and using that makes it no younger. */
    private static void livesAreApart() {
        House house = Scenes.granting();
        house.tick(60);
        CHECKS.same("proxy, 60 later", house.proxy(1, 0), 2);
        house.tick(1);
        CHECKS.same("the granting ticket", house.about(1, 1), 0);
        CHECKS.same("the proxy ticket", house.about(2, 1), 1);
        CHECKS.same("code of the proxy ticket", house.validate(2, 0, 2, 4), 0);
        CHECKS.same("a granting ticket from it", Reading.ticket(house, 3), "2 1 0 4 61 0 2 2");
        CHECKS.same("proxy from that", house.proxy(3, 0), 4);
    }

    private static void fresh() {
        House house = withAllKinds();
        int[] due = {0, 0, 1, 0, 0};
        for (int t = 0; t < due.length; t++) {
            CHECKS.same("about(" + t + ", 5)", house.about(t, 5), due[t]);
        }
        house.validate(2, 0, 0, 2);
        CHECKS.same("from a fresh ticket", house.about(5, 5), 0);
        CHECKS.same("proxy", house.about(house.proxy(5, 0), 5), 0);
        CHECKS.same("another of that session", house.about(house.ticket(1, 0), 5), 0);
        CHECKS.same("dead and fresh", house.about(2, 5), 1);
        CHECKS.same("dead", house.about(2, 1), 0);
    }

    /** The longest chain that 150 tickets can make. */
    private static void chains() {
        House house = Scenes.granting();
        CHECKS.same("chain of the service ticket", house.about(0, 7), 0);
        CHECKS.same("chain of the granting ticket", house.about(1, 7), 1);
        StringBuilder chain = new StringBuilder("<p>3</p>");
        for (int depth = 1; depth <= 74; depth++) {
            int granting = 2 * depth - 1;
            int proxy = house.proxy(granting, 0);
            CHECKS.same("chain of the proxy ticket", house.about(proxy, 7), depth);
            int callback = 1 + depth % 5;
            house.validate(proxy, 0, 2, callback);
            if (depth < 5 || depth == 74) {
                CHECKS.same("document", Reading.document(house), "<ok u=\"\"><d>0</d><l>1</l>"
                        + "<n>0</n><g>" + (proxy + 1) + "</g>" + chain + "</ok>");
            }
            chain.insert(0, "<p>" + callback + "</p>");
            CHECKS.same("chain of the granting ticket", house.about(proxy + 1, 7), depth + 1);
        }
        CHECKS.same("about the last", Reading.ticket(house, 149), "2 1 0 5 0 0 148 75");
    }

    private static void mostTickets() {
        House house = Scenes.fullOfTickets();
        CHECKS.same("house(2)", house.house(2), 150);
        int[] kinds = new int[3];
        for (int t = 0; t < 150; t++) {
            kinds[house.about(t, 0)]++;
        }
        CHECKS.same("kinds", kinds[0] + " " + kinds[1] + " " + kinds[2], "74 74 2");
        CHECKS.same("about(149, 1)", house.about(149, 1), 1);
        house.logout(0);
        CHECKS.same("house(2) when all are dead", house.house(2), 150);
        house.login(0, 5, false);
        CHECKS.badState("ticket when all are dead", house, h -> h.ticket(1, 0));
        House last = Scenes.granting();
        for (int t = 2; t < 149; t++) {
            last.ticket(0, 0);
        }
        CHECKS.same("a service ticket as the last", last.again().ticket(0, 0), 149);
        CHECKS.same("a fresh one as the last", last.again().enter(0, 5, 0), 149);
        CHECKS.same("a proxy ticket as the last", last.again().proxy(1, 0), 149);
        CHECKS.same("code 0 and a callback", last.validate(148, 0, 0, 2), 0);
        CHECKS.same("a granting one as the last", Reading.ticket(last, 149), "2 1 0 2 0 0 148 1");
    }

    private static void ticketOfASession() {
        House house = Scenes.start();
        house.service(5, 1);
        house.login(0, 5, false);
        house.login(0, 5, true);
        house.tick(9);
        CHECKS.same("ticket(1, 5)", house.ticket(1, 5), 0);
        CHECKS.same("about it", Reading.ticket(house, 0), "0 1 1 5 9 0 -1 0");
        CHECKS.same("its session", Reading.session(house, 1), "0 1 0 9 1");
        CHECKS.same("the other session", Reading.session(house, 0), "0 1 0 0 0");
        CHECKS.same("ticket(0, 0)", house.ticket(0, 0), 1);
        CHECKS.same("about it", Reading.ticket(house, 1), "0 1 0 0 9 0 -1 0");
        CHECKS.same("house(2)", house.house(2), 2);
    }

    private static void ticketOfNoSession() {
        House one = Scenes.granting();
        CHECKS.badOutside("ticket(#, 0), one session", one, 0, 0, (h, n) -> h.ticket(n, 0));
        House full = Scenes.fullOfSessions();
        CHECKS.badOutside("ticket(#, 0), 40 sessions", full, 0, 39, (h, n) -> h.ticket(n, 0));
        CHECKS.same("ticket(38, 0)", full.ticket(38, 0), 0);
        CHECKS.same("ticket(0, 0)", full.ticket(0, 0), 1);
    }

    private static void ticketForNoService() {
        House house = Scenes.granting();
        house.tick(1);
        CHECKS.badOutside("ticket(0, #)", house, 0, 5, (h, s) -> h.ticket(0, s));
        for (int s = 2; s <= 5; s++) {
            int service = s;
            CHECKS.badArgument("ticket(0, " + s + ")", house, h -> h.ticket(0, service));
        }
        house.service(0, 62);
        CHECKS.badArgument("ticket(0, 0), no more enabled", house, h -> h.ticket(0, 0));
        house.service(5, 1);
        CHECKS.same("ticket(0, 5)", house.ticket(0, 5), 2);
    }

    private static void ticketOfAnEndedSession() {
        House house = Scenes.granting();
        house.login(0, 5, false);
        House out = house.again();
        out.logout(1);
        CHECKS.badState("ticket(1, 0) after logout", out, h -> h.ticket(1, 0));
        CHECKS.same("ticket(0, 0)", out.ticket(0, 0), 2);
        house.tick(30);
        CHECKS.same("ticket(1, 0), 30 later", house.again().ticket(1, 0), 2);
        house.tick(1);
        CHECKS.badState("ticket(1, 0), 31 later", house, h -> h.ticket(1, 0));
        CHECKS.same("ticket(0, 0)", house.ticket(0, 0), 2);
    }

    private static void ticketBeyondTheLast() {
        House house = Scenes.granting();
        for (int t = 2; t < 150; t++) {
            CHECKS.same("ticket", house.ticket(0, t % 2), t);
        }
        house.tick(1);
        CHECKS.badState("ticket(0, 0)", house, h -> h.ticket(0, 0));
        CHECKS.badState("ticket(0, 1)", house, h -> h.ticket(0, 1));
    }

    private static void proxyFromGranting() {
        House house = Scenes.granting();
        house.service(5, 1);
        house.login(0, 5, true);
        house.tick(7);
        CHECKS.same("proxy(1, 5)", house.proxy(1, 5), 2);
        CHECKS.same("about it", Reading.ticket(house, 2), "1 1 0 5 7 0 1 1");
        CHECKS.same("its session", Reading.session(house, 0), "0 1 0 7 1");
        CHECKS.same("the other session", Reading.session(house, 1), "0 1 0 0 1");
        CHECKS.same("proxy(1, 0)", house.proxy(1, 0), 3);
        CHECKS.same("about the granting one", Reading.ticket(house, 1), "2 1 0 3 0 0 0 1");
        // Neither the callback nor the first service is looked at again.
        house.callback(3, false);
        house.service(0, 0);
        CHECKS.same("proxy(1, 1)", house.proxy(1, 1), 4);
    }

    private static void proxyFromNone() {
        CHECKS.badOutside("proxy(#, 0), two tickets", Scenes.granting(), 0, 1,
                (h, g) -> h.proxy(g, 0));
        CHECKS.badOutside("proxy(#, 0), 150 tickets", Scenes.fullOfTickets(), 0, 149,
                (h, g) -> h.proxy(g, 0));
    }

    private static void proxyFromAnotherKind() {
        House house = withAllKinds();
        for (int t : new int[] {0, 2, 3, 4}) {
            CHECKS.badArgument("proxy(" + t + ", 0)", house, h -> h.proxy(t, 0));
        }
    }

    private static void proxyForNoService() {
        House house = Scenes.granting();
        house.tick(1);
        CHECKS.badOutside("proxy(1, #)", house, 0, 5, (h, s) -> h.proxy(1, s));
        for (int s = 2; s <= 5; s++) {
            int service = s;
            CHECKS.badArgument("proxy(1, " + s + ")", house, h -> h.proxy(1, service));
        }
        house.service(0, 62);
        CHECKS.badArgument("proxy(1, 0), no more enabled", house, h -> h.proxy(1, 0));
        house.service(5, 1);
        CHECKS.same("proxy(1, 5)", house.proxy(1, 5), 2);
    }

    private static void proxyFromADeadOne() {
        House house = Scenes.granting();
        house.tick(60);
        CHECKS.same("proxy, 60 later", house.proxy(1, 0), 2);
        house.tick(1);
        CHECKS.badState("proxy, 61 later", house, h -> h.proxy(1, 0));
        House out = Scenes.granting();
        out.logout(0);
        CHECKS.badState("proxy after logout", out, h -> h.proxy(1, 0));
        House shorter = Scenes.start();
        shorter.enter(0, 5, 0);
        shorter.validate(0, 0, 0, 1);
        shorter.tick(30);
        CHECKS.same("proxy, 30 after the use", shorter.again().proxy(1, 0), 2);
        shorter.tick(1);
        CHECKS.badState("proxy of a session ended by the clock", shorter, h -> h.proxy(1, 0));
    }

    private static void proxyBeyondTheLast() {
        House house = Scenes.granting();
        for (int t = 2; t < 150; t++) {
            CHECKS.same("proxy", house.proxy(1, t % 2), t);
        }
        house.tick(1);
        CHECKS.badState("proxy(1, 0)", house, h -> h.proxy(1, 0));
        CHECKS.badState("proxy(1, 1)", house, h -> h.proxy(1, 1));
    }

    private static void eachQuestion() {
        House house = withAllKinds();
        String[] due = {"0 0 0 0 0 0 -1 0", "2 1 0 3 0 0 0 1", "0 1 1 0 7 1 -1 0",
            "0 1 0 0 7 0 -1 0", "1 1 0 0 7 0 1 1"};
        for (int t = 0; t < due.length; t++) {
            CHECKS.same("ticket " + t, Reading.ticket(house, t), due[t]);
        }
        for (int c = 1; c <= 5; c++) {
            house.validate(house.proxy(1, 0), 0, 2, c);
            int proxy = 3 + 2 * c;
            CHECKS.same("granting for " + c, Reading.ticket(house, proxy + 1),
                    "2 1 0 " + c + " 7 0 " + proxy + " 2");
        }
        for (int s = 0; s <= 5; s++) {
            house.service(s, 1);
            CHECKS.same("service of the ticket", house.about(house.ticket(0, s), 3), s);
        }
    }

    private static void noSuchTicket() {
        House two = Scenes.granting();
        House full = Scenes.fullOfTickets();
        for (int what = -1; what <= 8; what++) {
            House asked = two.again();
            for (int t : Checks.outside(0, 1)) {
                CHECKS.none("about(" + t + ", " + what + ")", asked.about(t, what));
            }
            asked = full.again();
            for (int t : Checks.outside(0, 149)) {
                CHECKS.none("about(" + t + ", " + what + ")", asked.about(t, what));
            }
        }
    }

    private static void noSuchQuestion() {
        House house = withAllKinds();
        for (int what : Checks.outside(0, 7)) {
            for (int t = 0; t <= 5; t++) {
                CHECKS.none("about(" + t + ", " + what + ")", house.about(t, what));
            }
        }
    }
}
