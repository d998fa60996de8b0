/** Promises 4 (password), 7 (login) and 8 (enter): passwords, tries and locks. */
public final class LoginTest {
    private static final Checks CHECKS = new Checks();
    private static final int[] WORDS = {0, -1, 1, Integer.MIN_VALUE, Integer.MAX_VALUE};

    public static void main(String[] args) {
        CHECKS.holds("USERS 0 .. 3 have each a PASSWORD (an int)", LoginTest::everyWord);
        CHECKS.holds("4: User u gets a password: true", LoginTest::passwordsAreReplaced);
        CHECKS.holds("4: and is not locked; no wrong tries count", LoginTest::passwordUnlocks);
        CHECKS.holds("4: there is no such user", LoginTest::passwordOfNobody);
        CHECKS.holds("one of a user without a password is wrong, and does not count",
                LoginTest::withoutPassword);
        CHECKS.holds("LOCKED, if the latest three tries were all wrong",
                LoginTest::threeWrongTries);
        CHECKS.holds("tries by login() and by enter() are alike", LoginTest::triesOfBothKinds);
        CHECKS.holds("the latest three tries, however old", LoginTest::oldTriesCount);
        CHECKS.holds("A right try makes that no wrong ones count", LoginTest::rightTryForgets);
        CHECKS.holds("until the clock is more than 20 above the time of the latest of them",
                LoginTest::lockEnds);
        CHECKS.holds("the three count no more then", LoginTest::newTriesAfterALock);
        CHECKS.holds("tries while locked are no tries", LoginTest::triesWhileLocked);
        CHECKS.holds("tries and locks of a user are his own", LoginTest::usersAreApart);
        CHECKS.holds("7: answers the number of a new session", LoginTest::loginOpensSessions);
        CHECKS.holds("7: there is no such user", LoginTest::loginOfNobody);
        CHECKS.holds("SESSIONS (at most 40); 7: there are 40 sessions", LoginTest::fortySessions);
        CHECKS.holds("8: not remembered, and a fresh service ticket of it", LoginTest::enterOpens);
        CHECKS.holds("8: WRONG or LOCKED: no session and no ticket", LoginTest::enterFails);
        CHECKS.holds("8: there is no such user", LoginTest::enterOfNobody);
        CHECKS.holds("8: no such service, or it is not enabled", LoginTest::enterForNoService);
        CHECKS.holds("8: there are 40 sessions", LoginTest::enterWithoutSessions);
        CHECKS.holds("8: or 150 tickets", LoginTest::enterWithoutTickets);
        CHECKS.end("login");
    }

    private static void tries(House house, int u, int word, int count, int due) {
        for (int i = 0; i < count; i++) {
            CHECKS.same("login(" + u + ", " + word + ", false)", house.login(u, word, false), due);
        }
    }

    private static void everyWord() {
        for (int u = 0; u < 4; u++) {
            for (int word : WORDS) {
                House house = new House();
                CHECKS.same("password", house.password(u, word), true);
                for (int other : WORDS) {
                    String call = "login(" + u + ", " + other + ", false), due word " + word;
                    CHECKS.same(call, house.again().login(u, other, false),
                            other == word ? 0 : TicketHouse.WRONG);
                }
                CHECKS.same("the next word", house.login(u, word + 1, false), TicketHouse.WRONG);
                CHECKS.same("the one before", house.login(u, word - 1, false), TicketHouse.WRONG);
            }
        }
    }

    private static void passwordsAreReplaced() {
        House house = new House();
        CHECKS.same("password(1, 9)", house.password(1, 9), true);
        CHECKS.same("password(1, 8)", house.password(1, 8), true);
        CHECKS.same("the old one", house.login(1, 9, false), TicketHouse.WRONG);
        CHECKS.same("the new one", house.login(1, 8, false), 0);
        CHECKS.same("password(1, 8) again", house.password(1, 8), true);
        CHECKS.same("the session stays open", house.session(0, 1), 1);
        CHECKS.same("the same one", house.login(1, 8, false), 1);
    }

    private static void passwordUnlocks() {
        for (int wrong = 1; wrong <= 3; wrong++) {
            for (int word : new int[] {5, 7}) {
                House house = new House();
                house.password(1, 5);
                tries(house, 1, 6, wrong, TicketHouse.WRONG);
                CHECKS.same("password(1, " + word + ")", house.password(1, word), true);
                CHECKS.same("house(6)", house.house(6), 0);
                tries(house, 1, 6, 2, TicketHouse.WRONG);
                CHECKS.same("not locked by two more", house.login(1, word, false), 0);
            }
        }
    }

    private static void passwordOfNobody() {
        House house = Scenes.start();
        Scenes.lock(house, 3);
        for (int word : new int[] {0, 9}) {
            CHECKS.badOutside("password(#, " + word + ")", house, 0, 3,
                    (h, u) -> h.password(u, word));
        }
        CHECKS.same("password(3, 9)", house.password(3, 9), true);
        CHECKS.same("password(0, 9)", house.password(0, 9), true);
    }

    private static void withoutPassword() {
        House house = Scenes.start();
        for (int i = 0; i < 4; i++) {
            tries(house, 2, i, 1, TicketHouse.WRONG);
            CHECKS.same("enter(2, 0, 0)", house.enter(2, 0, 0), TicketHouse.WRONG);
            CHECKS.same("house(7)", house.house(7), 0);
        }
        CHECKS.same("house(1)", house.house(1), 0);
        CHECKS.same("house(2)", house.house(2), 0);
        house.password(2, 5);
        tries(house, 2, 6, 2, TicketHouse.WRONG);
        CHECKS.same("two wrong tries count", house.house(7), 2);
        CHECKS.same("login with a password", house.login(2, 5, true), 0);
    }

    private static void threeWrongTries() {
        House house = Scenes.start();
        tries(house, 0, 6, 2, TicketHouse.WRONG);
        CHECKS.same("a right try after two", house.again().login(0, 5, false), 0);
        CHECKS.same("the third", house.login(0, 6, false), TicketHouse.WRONG);
        CHECKS.same("house(5)", house.house(5), 3);
        CHECKS.same("a right try after three", house.login(0, 5, false), TicketHouse.LOCKED);
        CHECKS.same("a remembered one", house.login(0, 5, true), TicketHouse.LOCKED);
        CHECKS.same("a wrong try after three", house.login(0, 6, false), TicketHouse.LOCKED);
        CHECKS.same("house(1)", house.house(1), 0);
    }

    private static void triesOfBothKinds() {
        for (int kinds = 0; kinds < 8; kinds++) {
            House house = Scenes.start();
            for (int i = 0; i < 3; i++) {
                boolean byEnter = (kinds >> i & 1) == 1;
                CHECKS.same("a wrong try", byEnter ? house.enter(0, 6, 0)
                        : house.login(0, 6, false), TicketHouse.WRONG);
                CHECKS.same("house(5)", house.house(5), i + 1);
            }
            CHECKS.same("enter", house.enter(0, 5, 0), TicketHouse.LOCKED);
            CHECKS.same("login", house.login(0, 5, false), TicketHouse.LOCKED);
        }
    }

    private static void oldTriesCount() {
        for (int wait : new int[] {20, 21, 200}) {
            House house = Scenes.start();
            tries(house, 0, 6, 1, TicketHouse.WRONG);
            house.tick(wait);
            tries(house, 0, 6, 1, TicketHouse.WRONG);
            house.tick(wait);
            CHECKS.same("house(5) after two waits of " + wait, house.house(5), 2);
            tries(house, 0, 6, 1, TicketHouse.WRONG);
            tries(house, 0, 5, 1, TicketHouse.LOCKED);
        }
    }

    private static void rightTryForgets() {
        for (int wrong = 1; wrong <= 2; wrong++) {
            House house = Scenes.start();
            tries(house, 0, 6, wrong, TicketHouse.WRONG);
            CHECKS.same("a right login", house.login(0, 5, false), 0);
            CHECKS.same("house(5)", house.house(5), 0);
            tries(house, 0, 6, wrong, TicketHouse.WRONG);
            CHECKS.same("a right enter", house.enter(0, 5, 0), 0);
            CHECKS.same("house(5)", house.house(5), 0);
            tries(house, 0, 6, 2, TicketHouse.WRONG);
            CHECKS.same("a right login after two", house.login(0, 5, false), 2);
        }
    }

    private static void lockEnds() {
        House house = Scenes.start();
        house.tick(4);
        tries(house, 0, 6, 1, TicketHouse.WRONG);
        house.tick(7);
        tries(house, 0, 6, 1, TicketHouse.WRONG);
        house.tick(9);
        tries(house, 0, 6, 1, TicketHouse.WRONG);
        for (int after = 1; after <= 200; after++) {
            House later = house.again();
            later.tick(after);
            boolean locked = after <= 20;
            CHECKS.same("house(5), " + after + " later", later.house(5), locked ? 3 : 0);
            CHECKS.same("enter, " + after + " later", later.again().enter(0, 5, 0),
                    locked ? TicketHouse.LOCKED : 0);
            CHECKS.same("login, " + after + " later", later.login(0, 5, false),
                    locked ? TicketHouse.LOCKED : 0);
        }
        for (int after = 1; after <= 20; after++) {
            house.tick(1);
            CHECKS.same("house(5), step " + after, house.house(5), 3);
        }
        house.tick(1);
        CHECKS.same("house(5), step 21", house.house(5), 0);
    }

    private static void newTriesAfterALock() {
        House house = Scenes.start();
        tries(house, 0, 6, 3, TicketHouse.WRONG);
        house.tick(21);
        for (int count = 1; count <= 3; count++) {
            tries(house, 0, 6, 1, TicketHouse.WRONG);
            CHECKS.same("house(5)", house.house(5), count);
        }
        tries(house, 0, 5, 1, TicketHouse.LOCKED);
        house.tick(20);
        tries(house, 0, 5, 1, TicketHouse.LOCKED);
        house.tick(1);
        tries(house, 0, 5, 1, 0);
    }

    /** They neither put off the end of the lock nor shorten it. */
    private static void triesWhileLocked() {
        for (int word : new int[] {5, 6}) {
            House house = Scenes.start();
            tries(house, 0, 6, 3, TicketHouse.WRONG);
            for (int i = 0; i < 20; i++) {
                house.tick(1);
                tries(house, 0, word, 1, TicketHouse.LOCKED);
                CHECKS.same("enter", house.enter(0, word, 0), TicketHouse.LOCKED);
                CHECKS.same("house(5)", house.house(5), 3);
            }
            house.tick(1);
            CHECKS.same("house(5), 21 later", house.house(5), 0);
            tries(house, 0, 5, 1, 0);
        }
    }

    private static void usersAreApart() {
        House house = new House();
        for (int u = 0; u < 4; u++) {
            house.password(u, 5);
            tries(house, u, 6, u, TicketHouse.WRONG);
        }
        house.password(2, 5);
        house.login(1, 5, false);
        int[] due = {0, 0, 0, 3};
        for (int u = 0; u < 4; u++) {
            CHECKS.same("wrong tries of user " + u, house.house(5 + u), due[u]);
        }
        tries(house, 3, 5, 1, TicketHouse.LOCKED);
        house.tick(5);
        tries(house, 0, 6, 3, TicketHouse.WRONG);
        house.tick(16);
        CHECKS.same("user 3 is locked no more", house.house(8), 0);
        CHECKS.same("user 0 is still locked", house.house(5), 3);
        house.tick(5);
        CHECKS.same("user 0 is locked no more", house.house(5), 0);
    }

    private static void loginOpensSessions() {
        House house = new House();
        house.password(3, -7);
        house.password(0, 0);
        house.tick(5);
        CHECKS.same("login(3, -7, true)", house.login(3, -7, true), 0);
        house.tick(2);
        CHECKS.same("login(0, 0, false)", house.login(0, 0, false), 1);
        CHECKS.same("session 0", Reading.session(house, 0), "3 1 5 5 1");
        CHECKS.same("session 1", Reading.session(house, 1), "0 1 7 7 0");
        CHECKS.same("house(1)", house.house(1), 2);
        CHECKS.same("house(2)", house.house(2), 0);
    }

    private static void loginOfNobody() {
        House house = Scenes.start();
        house.password(3, 5);
        CHECKS.badOutside("login(#, 5, true)", house, 0, 3, (h, u) -> h.login(u, 5, true));
        CHECKS.badOutside("login(#, 6, false)", house, 0, 3, (h, u) -> h.login(u, 6, false));
        CHECKS.same("login(0, 5, true)", house.login(0, 5, true), 0);
        CHECKS.same("login(3, 5, true)", house.login(3, 5, true), 1);
    }

    private static void fortySessions() {
        House house = Scenes.start();
        for (int n = 0; n < 39; n++) {
            CHECKS.same("login", house.login(0, 5, n % 2 == 0), n);
        }
        CHECKS.same("a wrong login with 39", house.login(0, 6, false), TicketHouse.WRONG);
        CHECKS.same("the last login", house.login(0, 5, false), 39);
        CHECKS.same("session(39, 1)", house.session(39, 1), 1);
        CHECKS.badState("login with 40", house, h -> h.login(0, 5, false));
        CHECKS.badState("a remembered login with 40", house, h -> h.login(0, 5, true));
        CHECKS.badState("a wrong login with 40", house, h -> h.login(0, 6, false));
        house.logout(39);
        CHECKS.badState("login after a logout", house, h -> h.login(0, 5, false));
        house.tick(200);
        CHECKS.badState("login when all have ended", house, h -> h.login(0, 5, false));
        House full = Scenes.fullOfSessions();
        CHECKS.badState("login of a locked user", full, h -> h.login(1, 5, false));
        CHECKS.badState("login without a password", full, h -> h.login(2, 5, false));
    }

    private static void enterOpens() {
        House house = Scenes.start();
        house.service(5, 1);
        house.password(3, 5);
        house.login(0, 5, true);
        house.ticket(0, 0);
        house.tick(3);
        CHECKS.same("enter(3, 5, 5)", house.enter(3, 5, 5), 1);
        CHECKS.same("its ticket", Reading.ticket(house, 1), "0 1 1 5 3 1 -1 0");
        CHECKS.same("its session", Reading.session(house, 1), "3 1 3 3 0");
        CHECKS.same("enter(0, 5, 0)", house.enter(0, 5, 0), 2);
        CHECKS.same("its ticket", Reading.ticket(house, 2), "0 1 2 0 3 1 -1 0");
        CHECKS.same("its session", Reading.session(house, 2), "0 1 3 3 0");
        CHECKS.same("the other session", Reading.session(house, 0), "0 1 0 0 1");
    }

    private static void enterFails() {
        House house = Scenes.start();
        for (int i = 1; i <= 4; i++) {
            CHECKS.same("wrong enter", house.enter(0, 4, 1),
                    i <= 3 ? TicketHouse.WRONG : TicketHouse.LOCKED);
        }
        CHECKS.same("right enter", house.enter(0, 5, 1), TicketHouse.LOCKED);
        CHECKS.same("house(1)", house.house(1), 0);
        CHECKS.same("house(2)", house.house(2), 0);
    }

    private static void enterOfNobody() {
        House house = Scenes.start();
        house.password(3, 5);
        CHECKS.badOutside("enter(#, 5, 0)", house, 0, 3, (h, u) -> h.enter(u, 5, 0));
        CHECKS.badOutside("enter(#, 6, 0)", house, 0, 3, (h, u) -> h.enter(u, 6, 0));
        CHECKS.same("enter(0, 5, 0)", house.enter(0, 5, 0), 0);
        CHECKS.same("enter(3, 5, 0)", house.enter(3, 5, 0), 1);
    }

    private static void enterForNoService() {
        House house = Scenes.start();
        for (int word : new int[] {5, 6}) {
            CHECKS.badOutside("enter(0, " + word + ", #)", house, 0, 5,
                    (h, s) -> h.enter(0, word, s));
            for (int s = 2; s <= 5; s++) {
                int service = s;
                CHECKS.badArgument("enter(0, " + word + ", " + s + ")", house,
                        h -> h.enter(0, word, service));
            }
        }
        Scenes.lock(house, 1);
        CHECKS.badArgument("enter of a locked user", house, h -> h.enter(1, 5, 2));
        CHECKS.badArgument("enter without a password", house, h -> h.enter(2, 5, 2));
    }

    private static void enterWithoutSessions() {
        House house = Scenes.start();
        for (int n = 0; n < 39; n++) {
            house.login(0, 5, false);
        }
        CHECKS.same("enter for the last session", house.enter(0, 5, 0), 0);
        CHECKS.same("its session", house.about(0, 2), 39);
        House full = Scenes.fullOfSessions();
        CHECKS.badState("enter with 40", full, h -> h.enter(0, 5, 0));
        CHECKS.badState("a wrong enter with 40", full, h -> h.enter(0, 6, 0));
        CHECKS.badState("enter of a locked user", full, h -> h.enter(1, 5, 0));
        CHECKS.badState("enter without a password", full, h -> h.enter(2, 5, 0));
    }

    private static void enterWithoutTickets() {
        House house = Scenes.start();
        house.login(0, 5, false);
        for (int t = 0; t < 149; t++) {
            house.ticket(0, 0);
        }
        CHECKS.same("enter for the last ticket", house.enter(0, 5, 0), 149);
        House full = Scenes.fullOfTickets();
        CHECKS.badState("enter with 150", full, h -> h.enter(0, 5, 0));
        CHECKS.badState("a wrong enter with 150", full, h -> h.enter(0, 6, 0));
        CHECKS.badState("enter of a locked user", full, h -> h.enter(1, 5, 0));
        CHECKS.badState("enter without a password", full, h -> h.enter(2, 5, 0));
        CHECKS.same("login needs no ticket", full.login(0, 5, false), 1);
        full.tick(200);
        CHECKS.badState("enter when all are dead", full, h -> h.enter(0, 5, 0));
    }
}
