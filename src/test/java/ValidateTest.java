/** Promises 11 (validate) and 14 (document). */
public final class ValidateTest {
    private static final Checks CHECKS = new Checks();
    private static final String PLAIN = "<ok u=\"Ann\"><d>4</d><n>0</n></ok>";

    public static void main(String[] args) {
        accepted();
        unknown();
        ofWrongKind();
        dead();
        forAnotherService();
        notFresh();
        firstCodeThatHolds();
        attributes();
        escapes();
        grantingTickets();
        chainInItsOrder();
        longestDocument();
        theDocument();
        theDocumentStays();
        refuses();
        CHECKS.end("validate");
    }

    /** Ann's session 0 since 4, with service ticket 0 for service 2; service 3 is enabled too. */
    private static TicketHouse withTicket() {
        TicketHouse house = new TicketHouse();
        Checks.text(house, 1, 3, "Ann");
        house.password(1, 5);
        house.service(2, 3);
        house.service(3, 1);
        house.tick(4);
        house.login(1, 5, false);
        house.ticket(0, 2);
        return house;
    }

    private static String no(int code, int t) {
        return "<no c=\"" + code + "\">" + t + "</no>";
    }

    private static void asks(TicketHouse house, int t, int s, int how, int code) {
        String call = "validate(" + t + ", " + s + ", " + how + ", 0)";
        CHECKS.same(call, house.validate(t, s, how, 0), code);
        if (code != 0) {
            CHECKS.same("document of " + call, Checks.document(house), no(code, t));
        }
    }

    private static void accepted() {
        TicketHouse house = withTicket();
        house.tick(10);
        asks(house, 0, 2, 0, 0);
        CHECKS.same("document", Checks.document(house), PLAIN);
        CHECKS.same("its session is used", Checks.session(house, 0), "1 1 4 14 0");
        CHECKS.same("it is dead", house.about(0, 1), 0);
        CHECKS.same("no granting ticket", house.house(2), 1);
        TicketHouse remembered = withTicket();
        remembered.login(1, 5, true);
        remembered.tick(6);
        remembered.validate(remembered.ticket(1, 3), 3, 7 - 1, 0);
        CHECKS.same("remembered", Checks.document(remembered),
                "<ok u=\"Ann\"><d>4</d><l>1</l><n>0</n></ok>");
        remembered.validate(remembered.enter(1, 5, 3), 3, 1, 0);
        CHECKS.same("fresh", Checks.document(remembered), "<ok u=\"Ann\"><d>10</d><n>1</n></ok>");
    }

    private static void unknown() {
        TicketHouse house = withTicket();
        house.tick(1);
        house.service(4, 62);
        for (int t : new int[] {1, -1, 150, Integer.MIN_VALUE, Integer.MAX_VALUE}) {
            asks(house, t, 2, 0, 1);
        }
        for (int s : new int[] {0, 4, 6, -1, Integer.MIN_VALUE, Integer.MAX_VALUE}) {
            asks(house, 0, s, 0, 1);
        }
        house.service(2, 2);
        asks(house, 0, 2, 0, 1);
        house.service(2, 3);
        CHECKS.same("the ticket stays good", house.about(0, 1), 1);
        CHECKS.same("the session is not used", house.session(0, 3), 4);
        asks(house, 0, 2, 0, 0);
    }

    private static void ofWrongKind() {
        TicketHouse house = withTicket();
        house.validate(0, 2, 0, 5);
        house.proxy(1, 3);
        house.tick(1);
        for (int how = 0; how <= 7; how++) {
            asks(house, 1, 2, how, 2);
            if ((how & 2) == 0) {
                asks(house, 2, 3, how, 2);
            }
        }
        CHECKS.same("the granting ticket stays good", house.about(1, 1), 1);
        CHECKS.same("the proxy ticket stays good", house.about(2, 1), 1);
        CHECKS.same("the session is not used", house.session(0, 3), 4);
        asks(house, 2, 3, 2, 0);
        CHECKS.same("proxies accepted", Checks.document(house),
                "<ok u=\"Ann\"><d>4</d><n>0</n><p>5</p></ok>");
        CHECKS.same("the proxy ticket is dead", house.about(2, 1), 0);
    }

    private static void dead() {
        TicketHouse house = withTicket();
        house.tick(11);
        asks(house, 0, 2, 0, 3);
        CHECKS.same("the session is not used", house.session(0, 3), 4);
        house.ticket(0, 2);
        asks(house, 1, 2, 0, 0);
        asks(house, 1, 2, 0, 3);
        house.ticket(0, 2);
        house.logout(0);
        asks(house, 2, 2, 0, 3);
    }

    private static void forAnotherService() {
        TicketHouse house = withTicket();
        house.tick(1);
        asks(house, 0, 3, 0, 4);
        CHECKS.same("the session is not used", house.session(0, 3), 4);
        CHECKS.same("it is dead", house.about(0, 1), 0);
        asks(house, 0, 2, 0, 3);
    }

    private static void notFresh() {
        TicketHouse house = withTicket();
        house.tick(1);
        asks(house, 0, 2, 1, 5);
        CHECKS.same("the session is not used", house.session(0, 3), 4);
        CHECKS.same("no granting ticket", house.house(2), 1);
        asks(house, 0, 2, 0, 3);
        asks(house, house.enter(1, 5, 2), 2, 1, 0);
        TicketHouse proxies = withTicket();
        proxies.validate(proxies.enter(1, 5, 2), 2, 1, 1);
        CHECKS.same("a granting ticket is not fresh", proxies.about(2, 5), 0);
        asks(proxies, proxies.proxy(2, 3), 3, 3, 5);
    }

    private static void firstCodeThatHolds() {
        TicketHouse house = withTicket();
        house.validate(0, 2, 0, 1);
        house.proxy(1, 2);
        asks(house, 1, 0, 0, 1);
        asks(house, 2, 0, 1, 1);
        house.tick(11);
        asks(house, 2, 3, 1, 2);
        asks(house, 2, 3, 3, 3);
        house.ticket(0, 2);
        asks(house, 3, 3, 1, 4);
        house.tick(100);
        asks(house, 1, 2, 2, 2);
        asks(house, 0, 3, 1, 3);
    }

    private static void attributes() {
        TicketHouse house = new TicketHouse();
        Checks.text(house, 0, 0, "zero");
        Checks.text(house, 0, 2, "two");
        house.password(0, 5);
        house.password(1, 5);
        Checks.text(house, 1, 1, "one");
        for (int flags = 0; flags < 8; flags++) {
            house.service(0, 1 + 8 * flags);
            String zero = (flags & 1) == 0 ? "" : "<a0>zero</a0>";
            String two = (flags & 4) == 0 ? "" : "<a2>two</a2>";
            house.validate(house.enter(0, 5, 0), 0, 4, 0);
            CHECKS.same("attributes wanted, released " + flags, Checks.document(house),
                    "<ok u=\"\">" + zero + two + "<d>0</d><n>1</n></ok>");
            house.validate(house.enter(0, 5, 0), 0, 3, 0);
            CHECKS.same("attributes not wanted, released " + flags, Checks.document(house),
                    "<ok u=\"\"><d>0</d><n>1</n></ok>");
        }
        house.validate(house.enter(1, 5, 0), 0, 4, 0);
        CHECKS.same("attribute 1", Checks.document(house),
                "<ok u=\"\"><a1>one</a1><d>0</d><n>1</n></ok>");
    }

    private static void escapes() {
        TicketHouse house = new TicketHouse();
        house.password(0, 5);
        house.service(0, 63);
        Checks.text(house, 0, 3, "&<>\"'/ ~");
        Checks.text(house, 0, 1, "a&amp;b");
        Checks.text(house, 0, 2, " ");
        house.validate(house.enter(0, 5, 0), 0, 4, 0);
        CHECKS.same("escapes", Checks.document(house),
                "<ok u=\"&amp;&lt;&gt;&quot;'/ ~\"><a1>a&amp;amp;b</a1><a2> </a2>"
                + "<d>0</d><n>1</n></ok>");
    }

    private static void grantingTickets() {
        TicketHouse house = withTicket();
        house.tick(2);
        CHECKS.same("validate(0, 2, 0, 5)", house.validate(0, 2, 0, 5), 0);
        CHECKS.same("document", Checks.document(house),
                "<ok u=\"Ann\"><d>4</d><n>0</n><g>1</g></ok>");
        CHECKS.same("the granting ticket", Checks.ticket(house, 1), "2 1 0 5 6 0 0 1");
        house.callback(5, false);
        CHECKS.same("no callback that works", house.validate(house.ticket(0, 2), 2, 0, 5), 0);
        CHECKS.same("document", Checks.document(house), PLAIN);
        CHECKS.same("no proxies", house.validate(house.ticket(0, 3), 3, 0, 4), 0);
        CHECKS.same("document", Checks.document(house), PLAIN);
        CHECKS.same("no callback", house.validate(house.ticket(0, 2), 2, 0, 0), 0);
        CHECKS.same("document", Checks.document(house), PLAIN);
        CHECKS.same("refused", house.validate(house.ticket(0, 2), 3, 0, 4), 4);
        CHECKS.same("house(2)", house.house(2), 6);
        CHECKS.same("the callback's later fault is none", house.about(1, 1), 1);
        // The service is looked at as it is now.
        house.service(3, 3);
        CHECKS.same("proxies now", house.validate(house.ticket(0, 3), 3, 0, 4), 0);
        CHECKS.same("house(2)", house.house(2), 8);
    }

    private static void chainInItsOrder() {
        TicketHouse house = withTicket();
        house.validate(0, 2, 0, 5);
        house.validate(house.proxy(1, 2), 2, 2, 1);
        CHECKS.same("one callback", Checks.document(house),
                "<ok u=\"Ann\"><d>4</d><n>0</n><g>3</g><p>5</p></ok>");
        house.validate(house.proxy(3, 2), 2, 2, 4);
        CHECKS.same("two callbacks", Checks.document(house),
                "<ok u=\"Ann\"><d>4</d><n>0</n><g>5</g><p>1</p><p>5</p></ok>");
        house.validate(house.proxy(5, 3), 3, 2, 4);
        CHECKS.same("three callbacks", Checks.document(house),
                "<ok u=\"Ann\"><d>4</d><n>0</n><p>4</p><p>1</p><p>5</p></ok>");
    }

    private static void longestDocument() {
        TicketHouse house = new TicketHouse();
        String quotes = "\"\"\"\"\"\"\"\"";
        for (int which = 0; which < 4; which++) {
            Checks.text(house, 0, which, quotes);
        }
        house.password(0, 5);
        house.service(0, 63);
        for (int i = 0; i < 400; i++) {
            house.tick(200);
        }
        house.login(0, 5, true);
        house.ticket(0, 0);
        StringBuilder chain = new StringBuilder();
        for (int t = 0; t < 148; t += 2) {
            house.validate(t, 0, 2, 3);
            house.proxy(t + 1, 0);
            chain.append("<p>3</p>");
        }
        CHECKS.same("the longest document", house.validate(148, 0, 6, 1), 0);
        String x = "&quot;".repeat(8);
        CHECKS.same("document", Checks.document(house),
                "<ok u=\"" + x + "\"><a0>" + x + "</a0><a1>" + x + "</a1><a2>" + x + "</a2>"
                + "<d>80000</d><l>1</l><n>0</n><g>149</g>" + chain + "</ok>");
    }

    private static void theDocument() {
        TicketHouse house = withTicket();
        house.validate(-12, 2, 0, 0);
        String due = no(1, -12);
        CHECKS.same("document(NONE)", house.document(TicketHouse.NONE), due.length());
        for (int i = 0; i < due.length(); i++) {
            CHECKS.same("document(" + i + ")", house.document(i), due.charAt(i));
        }
        for (int i : new int[] {due.length(), -2, 5000, Integer.MIN_VALUE, Integer.MAX_VALUE}) {
            CHECKS.same("document(" + i + ")", house.document(i), TicketHouse.NONE);
        }
    }

    private static void theDocumentStays() {
        TicketHouse house = withTicket();
        house.validate(0, 2, 0, 0);
        Checks.text(house, 1, 3, "Bob");
        house.ticket(0, 2);
        house.logout(0);
        house.tick(50);
        CHECKS.same("document", Checks.document(house), PLAIN);
        house.validate(house.enter(1, 5, 2), 2, 0, 0);
        CHECKS.same("the name as it is now", Checks.document(house),
                "<ok u=\"Bob\"><d>54</d><n>1</n></ok>");
    }

    private static void refuses() {
        TicketHouse house = withTicket();
        house.validate(7, 2, 0, 0);
        for (int how : new int[] {8, -1, Integer.MIN_VALUE, Integer.MAX_VALUE}) {
            CHECKS.badArgument("validate(0, 2, " + how + ", 0)", house,
                    () -> house.validate(0, 2, how, 0));
            CHECKS.badArgument("validate(9, 9, " + how + ", 0)", house,
                    () -> house.validate(9, 9, how, 0));
        }
        for (int c : new int[] {6, -1, Integer.MIN_VALUE, Integer.MAX_VALUE}) {
            CHECKS.badArgument("validate(0, 2, 0, " + c + ")", house,
                    () -> house.validate(0, 2, 0, c));
            CHECKS.badArgument("validate(9, 9, 0, " + c + ")", house,
                    () -> house.validate(9, 9, 0, c));
        }
    }
}
