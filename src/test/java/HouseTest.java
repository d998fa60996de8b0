/** Promises 1 (a new object) and 18 (house), and the constants. */
public final class HouseTest {
    private static final Checks CHECKS = new Checks();
    private static final int[] WORDS = {0, 1, -1, -2, -3, Integer.MIN_VALUE, Integer.MAX_VALUE};

    public static void main(String[] args) {
        CHECKS.holds("NONE = -1, WRONG = -2, LOCKED = -3", HouseTest::constants);
        CHECKS.holds("The CLOCK is 0 at first", HouseTest::clockAtFirst);
        CHECKS.holds("1: No passwords", HouseTest::noPasswords);
        CHECKS.holds("1: No sessions", HouseTest::noSessions);
        CHECKS.holds("1: No tickets", HouseTest::noTickets);
        CHECKS.holds("1: No messages", HouseTest::noMessages);
        CHECKS.holds("1: an empty draft", HouseTest::emptyDraft);
        CHECKS.holds("1: an empty document", HouseTest::emptyDocument);
        CHECKS.holds("1: an object knows nothing of another", HouseTest::objectsAreApart);
        CHECKS.holds("An object is used for at most 512 calls", HouseTest::theLastCall);
        CHECKS.holds("18: what 0: the clock; 1: sessions; 2: tickets; 3: messages; 4: how long the "
                + "draft is; 5 to 8: wrong tries of user 0 to 3", HouseTest::eachQuestion);
        CHECKS.holds("18: 1: sessions, those that have ended too", HouseTest::mostSessions);
        CHECKS.holds("18: 2: tickets, dead ones too; 3: messages", HouseTest::mostTickets);
        CHECKS.holds("18: 4: how long the draft is", HouseTest::everyDraft);
        CHECKS.holds("18: 5 to 8: wrong tries that count (3: locked)", HouseTest::everyCount);
        CHECKS.holds("18: NONE for another what", HouseTest::anotherQuestion);
        CHECKS.end("house");
    }

    private static void constants() {
        CHECKS.same("NONE", TicketHouse.NONE, -1);
        CHECKS.same("WRONG", TicketHouse.WRONG, -2);
        CHECKS.same("LOCKED", TicketHouse.LOCKED, -3);
    }

    private static void clockAtFirst() {
        House house = new House();
        CHECKS.same("house(0)", house.house(0), 0);
        CHECKS.same("tick(1)", house.tick(1), 1);
    }

    private static void noPasswords() {
        for (int u = 0; u < 4; u++) {
            House house = new House();
            house.service(0, 1);
            for (int word : WORDS) {
                String arguments = "(" + u + ", " + word + ", ..)";
                CHECKS.same("login" + arguments, house.login(u, word, true), TicketHouse.WRONG);
                CHECKS.same("enter" + arguments, house.enter(u, word, 0), TicketHouse.WRONG);
            }
            CHECKS.same("house(" + (5 + u) + ")", house.house(5 + u), 0);
        }
    }

    private static void noSessions() {
        House house = new House();
        house.service(0, 1);
        CHECKS.same("house(1)", house.house(1), 0);
        for (int what = 0; what <= 4; what++) {
            CHECKS.none("session(0, " + what + ")", house.session(0, what));
        }
        CHECKS.badArgument("ticket(0, 0)", house, h -> h.ticket(0, 0));
        CHECKS.badArgument("logout(0)", house, h -> h.logout(0));
    }

    private static void noTickets() {
        House house = new House();
        house.service(0, 1);
        CHECKS.same("house(2)", house.house(2), 0);
        for (int what = 0; what <= 7; what++) {
            CHECKS.none("about(0, " + what + ")", house.about(0, what));
        }
        CHECKS.badArgument("proxy(0, 0)", house, h -> h.proxy(0, 0));
        CHECKS.same("validate(0, 0, 2, 0)", house.validate(0, 0, 2, 0), 1);
    }

    private static void noMessages() {
        House house = new House();
        CHECKS.same("house(3)", house.house(3), 0);
        CHECKS.none("message(0)", house.message(0));
    }

    private static void emptyDraft() {
        House house = new House();
        CHECKS.same("house(4)", house.house(4), 0);
        CHECKS.same("text(0, 3)", house.text(0, 3), 0);
        CHECKS.same("letter(65)", house.letter(65), 1);
    }

    private static void emptyDocument() {
        House house = new House();
        CHECKS.same("document(NONE)", house.document(TicketHouse.NONE), 0);
        CHECKS.none("document(0)", house.document(0));
        for (int i : Checks.outside(-1, -1)) {
            CHECKS.none("document(" + i + ")", house.document(i));
        }
    }

    private static void objectsAreApart() {
        House other = new House();
        String before = Reading.all(other);
        House one = new House();
        Scenes.text(one, 0, 3, "name");
        one.letter(65);
        one.password(0, 5);
        one.service(0, 7);
        one.callback(1, false);
        one.enter(0, 5, 0);
        one.validate(0, 0, 0, 2);
        one.login(0, 6, false);
        one.tick(200);
        CHECKS.same("the other object", Reading.all(other), before);
        CHECKS.same("a third object", Reading.all(new House()), before);
    }

    /** The clock is never further than this, so that no time wraps around. */
    private static void theLastCall() {
        House house = new House();
        for (int i = 1; i <= House.MOST_CALLS; i++) {
            CHECKS.same("tick(200), call " + i, house.tick(200), 200 * i);
        }
    }

    private static void eachQuestion() {
        House house = new House();
        for (int u = 0; u < 4; u++) {
            house.password(u, 5);
            for (int i = 0; i < 3 - u; i++) {
                house.login(u, 6, false);
            }
        }
        house.tick(9);
        house.service(0, 7);
        house.login(3, 5, true);
        house.enter(3, 5, 0);
        house.validate(0, 0, 0, 1);
        house.ticket(0, 0);
        house.logout(1);
        Scenes.draft(house, "draft");
        int[] due = {9, 2, 3, 1, 5, 3, 2, 1, 0};
        for (int what = 0; what <= 8; what++) {
            CHECKS.same("house(" + what + ")", house.house(what), due[what]);
        }
    }

    private static void mostSessions() {
        House house = Scenes.start();
        for (int n = 1; n <= 40; n++) {
            house.login(0, 5, false);
            CHECKS.same("house(1)", house.house(1), n);
        }
        house.logout(0);
        house.tick(200);
        CHECKS.same("house(1) when all have ended", house.house(1), 40);
    }

    private static void mostTickets() {
        House house = Scenes.start();
        house.service(1, 5);
        house.login(0, 5, false);
        for (int t = 1; t <= 150; t++) {
            house.ticket(0, 1);
            CHECKS.same("house(2)", house.house(2), t);
        }
        CHECKS.same("house(3) before the end", house.house(3), 0);
        house.logout(0);
        CHECKS.same("house(2) when all are dead", house.house(2), 150);
        CHECKS.same("house(3) after the end", house.house(3), 150);
    }

    private static void everyDraft() {
        House house = new House();
        for (int length = 1; length <= 8; length++) {
            house.letter(32);
            CHECKS.same("house(4)", house.house(4), length);
        }
        house.text(0, 0);
        CHECKS.same("house(4) after text", house.house(4), 0);
    }

    private static void everyCount() {
        for (int u = 0; u < 4; u++) {
            House house = new House();
            house.password(u, 5);
            for (int count = 1; count <= 3; count++) {
                house.login(u, 6, false);
                for (int what = 5; what <= 8; what++) {
                    CHECKS.same("house(" + what + "), wrong tries of user " + u,
                            house.house(what), what == 5 + u ? count : 0);
                }
            }
            house.login(u, 6, false);
            CHECKS.same("house(" + (5 + u) + ") while locked", house.house(5 + u), 3);
        }
    }

    private static void anotherQuestion() {
        for (House house : new House[] {new House(), Scenes.fullOfSessions()}) {
            for (int what : Checks.outside(0, 8)) {
                CHECKS.none("house(" + what + ")", house.house(what));
            }
        }
    }
}
