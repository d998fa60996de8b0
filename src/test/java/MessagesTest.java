/** Promise 17 (message): who is told when sessions end, and in which order. */
public final class MessagesTest {
    private static final Checks CHECKS = new Checks();

    public static void main(String[] args) {
        CHECKS.holds("a MESSAGE is put behind all others", MessagesTest::behindAllOthers);
        CHECKS.holds("for each of its service tickets", MessagesTest::serviceTicketsAlone);
        CHECKS.holds("by rising numbers", MessagesTest::risingNumbers);
        CHECKS.holds("dead or not", MessagesTest::deadOrNot);
        CHECKS.holds("whose service is TOLD now", MessagesTest::toldNow);
        CHECKS.holds("When the clock ends several sessions at once, they end by rising numbers",
                MessagesTest::sessionsInOrder);
        CHECKS.holds("a session ends once", MessagesTest::endsOnce);
        CHECKS.holds("17: 1000 * its service + its ticket", MessagesTest::everyService);
        CHECKS.holds("17: NONE when there is none", MessagesTest::noSuchMessage);
        CHECKS.holds("17: as many as there can be tickets", MessagesTest::mostMessages);
        CHECKS.end("messages");
    }

    /** User 0; service 0 is told and may use proxies, 1 is told, 2 is not told. */
    private static House withServices() {
        House house = new House();
        house.password(0, 5);
        house.service(0, 7);
        house.service(1, 5);
        house.service(2, 1);
        return house;
    }

    private static void behindAllOthers() {
        House house = withServices();
        house.enter(0, 5, 0);
        house.enter(0, 5, 1);
        house.enter(0, 5, 0);
        house.logout(1);
        CHECKS.same("messages", Reading.messages(house), "1001");
        house.logout(2);
        CHECKS.same("messages", Reading.messages(house), "1001 2");
        house.tick(31);
        CHECKS.same("messages", Reading.messages(house), "1001 2 0");
    }

    /** Ticket 2 is granting for callback 1, a number that a told service has too; 3 is a proxy. */
    private static void serviceTicketsAlone() {
        House house = withServices();
        house.login(0, 5, false);
        house.enter(0, 5, 1);
        house.ticket(0, 0);
        house.validate(1, 0, 0, 1);
        house.proxy(2, 1);
        house.ticket(0, 2);
        CHECKS.same("kind of ticket 2", house.about(2, 0), 2);
        CHECKS.same("kind of ticket 3", house.about(3, 0), 1);
        CHECKS.same("logout(0)", house.logout(0), 1);
        CHECKS.same("messages", Reading.messages(house), "1");
        CHECKS.same("logout(1)", house.logout(1), 1);
        CHECKS.same("messages", Reading.messages(house), "1 1000");
    }

    private static void risingNumbers() {
        House house = withServices();
        house.login(0, 5, false);
        for (int s : new int[] {1, 0, 1, 2, 0, 1}) {
            house.ticket(0, s);
        }
        CHECKS.same("logout(0)", house.logout(0), 5);
        CHECKS.same("messages", Reading.messages(house), "1000 1 1002 4 1005");
    }

    private static void deadOrNot() {
        House house = withServices();
        house.enter(0, 5, 0);
        house.validate(0, 0, 0, 0);
        house.ticket(0, 0);
        house.validate(1, 1, 0, 0);
        house.ticket(0, 0);
        house.tick(11);
        house.ticket(0, 0);
        for (int t = 0; t <= 3; t++) {
            CHECKS.same("good, ticket " + t, house.about(t, 1), t == 3 ? 1 : 0);
        }
        CHECKS.same("logout(0)", house.logout(0), 4);
        CHECKS.same("messages", Reading.messages(house), "0 1 2 3");
    }

    private static void toldNow() {
        House house = withServices();
        house.enter(0, 5, 1);
        house.ticket(0, 2);
        House before = house.again();
        before.service(1, 1);
        before.service(2, 4);
        CHECKS.same("logout(0)", before.logout(0), 1);
        CHECKS.same("messages", Reading.messages(before), "2001");
        house.logout(0);
        house.service(1, 1);
        house.service(2, 5);
        CHECKS.same("messages, changed too late", Reading.messages(house), "1000");
    }

    /** Session 2 would have ended by the clock before 1, and 1 before 0. */
    private static void sessionsInOrder() {
        House house = withServices();
        house.login(0, 5, true);
        house.login(0, 5, false);
        house.login(0, 5, false);
        house.tick(10);
        house.ticket(2, 1);
        house.tick(10);
        house.ticket(1, 1);
        house.ticket(0, 0);
        house.ticket(1, 2);
        house.ticket(1, 0);
        House both = house.again();
        both.tick(31);
        CHECKS.same("two end", Reading.messages(both), "1001 4 1000");
        house.tick(200);
        CHECKS.same("three end", Reading.messages(house), "2 1001 4 1000");
        house = withServices();
        for (int n = 0; n < 40; n++) {
            house.login(0, 5, n % 3 == 0);
        }
        StringBuilder due = new StringBuilder();
        for (int n = 39; n >= 0; n--) {
            house.ticket(n, 1);
            due.append(1000 + n).append(' ');
        }
        house.tick(151);
        CHECKS.same("forty end", Reading.messages(house), due.toString().trim());
    }

    private static void endsOnce() {
        House house = withServices();
        house.enter(0, 5, 0);
        house.logout(0);
        house.enter(0, 5, 1);
        house.tick(31);
        house.tick(200);
        house.tick(200);
        CHECKS.same("messages", Reading.messages(house), "0 1001");
    }

    private static void everyService() {
        House house = withServices();
        for (int s = 0; s < 6; s++) {
            house.service(s, 5);
            house.enter(0, 5, s);
        }
        house.tick(31);
        for (int s = 0; s < 6; s++) {
            CHECKS.same("message(" + s + ")", house.message(s), 1000 * s + s);
        }
    }

    private static void noSuchMessage() {
        House house = withServices();
        house.enter(0, 5, 0);
        CHECKS.none("message(0) before the end", house.message(0));
        house.logout(0);
        CHECKS.same("message(0)", house.message(0), 0);
        for (int i : Checks.outside(0, 0)) {
            CHECKS.none("message(" + i + ")", house.message(i));
        }
    }

    private static void mostMessages() {
        House house = withServices();
        house.service(5, 5);
        house.login(0, 5, false);
        for (int t = 0; t < 150; t++) {
            house.ticket(0, 5);
        }
        CHECKS.same("logout(0)", house.logout(0), 150);
        for (int t = 0; t < 150; t++) {
            CHECKS.same("message(" + t + ")", house.message(t), 5000 + t);
        }
        for (int i : Checks.outside(0, 149)) {
            CHECKS.none("message(" + i + ")", house.message(i));
        }
    }
}
