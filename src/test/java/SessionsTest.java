import java.util.List;
import java.util.function.Consumer;

/** Promises 12 (logout), 13 (tick) and 15 (session): how sessions are used and end. */
public final class SessionsTest {
    private static final Checks CHECKS = new Checks();

    public static void main(String[] args) {
        CHECKS.holds("A session is OPEN until: the clock is more than 30 (remembered: 150) above "
                + "the time when it was used last", SessionsTest::idle);
        CHECKS.holds("or more than 120 (remembered: 400) above its login", SessionsTest::wholeTime);
        CHECKS.holds("USED last at a time (first the login)", SessionsTest::usedAtFirst);
        CHECKS.holds("9, 10, with code 0: its session is used now", SessionsTest::uses);
        CHECKS.holds("a session is used by nothing else", SessionsTest::noUses);
        CHECKS.holds("All tickets of a session are dead when it ends", SessionsTest::deadTickets);
        CHECKS.holds("12: A session ends", SessionsTest::logoutEnds);
        CHECKS.holds("12: answers how many messages that made", SessionsTest::logoutCounts);
        CHECKS.holds("12: there is no such session", SessionsTest::logoutOfNone);
        CHECKS.holds("12: IllegalStateException: it has ended", SessionsTest::logoutTwice);
        CHECKS.holds("13: The clock grows by n; answers it", SessionsTest::clockGrows);
        CHECKS.holds("13: n is not 1 .. 200", SessionsTest::wrongTicks);
        CHECKS.holds("13: Then sessions end by it, and tickets are dead", SessionsTest::tickEnds);
        CHECKS.holds("15: About a session, what 0 .. 4", SessionsTest::eachQuestion);
        CHECKS.holds("15: NONE when there is no such session", SessionsTest::noSuchSession);
        CHECKS.holds("15: or what is not 0 .. 4", SessionsTest::noSuchQuestion);
        CHECKS.end("sessions");
    }

    /** Session 0 since 7. */
    private static House loggedIn(boolean remember) {
        House house = Scenes.start();
        house.tick(7);
        house.login(0, 5, remember);
        return house;
    }

    private static void openIs(String what, House house, int due) {
        CHECKS.same("session(0, 1), " + what, house.session(0, 1), due);
        if (due == 1) {
            CHECKS.same("ticket(0, 1), " + what, house.again().ticket(0, 1), house.house(2));
        } else {
            CHECKS.badState("ticket(0, 1), " + what, house, h -> h.ticket(0, 1));
            CHECKS.badState("logout(0), " + what, house, h -> h.logout(0));
        }
    }

    private static void idle() {
        for (boolean remember : new boolean[] {false, true}) {
            int most = remember ? 150 : 30;
            House bySteps = loggedIn(remember);
            for (int after = 1; after <= 200; after++) {
                House byOneTick = loggedIn(remember);
                byOneTick.tick(after);
                bySteps.tick(1);
                if (after < most - 1 || after > most + 2) {
                    int due = after <= most ? 1 : 0;
                    CHECKS.same("open, " + after + " later", byOneTick.session(0, 1), due);
                    CHECKS.same("open, step " + after, bySteps.session(0, 1), due);
                } else {
                    openIs(after + " later", byOneTick, after <= most ? 1 : 0);
                    openIs("step " + after, bySteps, after <= most ? 1 : 0);
                }
            }
        }
    }

    /** Used all the time, so that only the time since login counts. */
    private static void wholeTime() {
        for (boolean remember : new boolean[] {false, true}) {
            int step = remember ? 100 : 30;
            int most = remember ? 400 : 120;
            House house = loggedIn(remember);
            for (int passed = step; passed < most; passed += step) {
                house.tick(step);
                house.ticket(0, 1);
            }
            for (int left = step - 10; left <= step; left++) {
                House later = house.again();
                later.tick(left);
                openIs(left + " after the latest use", later, 1);
                later.ticket(0, 1);
                openIs("just used", later, 1);
                later.tick(step - left + 1);
                openIs(most + 1 + " after login", later, 0);
            }
            house.tick(step - 5);
            house.ticket(0, 1);
            house.tick(6);
            openIs(most + 1 + " after login by one tick", house, 0);
            CHECKS.same("used last", house.session(0, 3), 7 + most - 5);
        }
    }

    private static void usedAtFirst() {
        for (boolean remember : new boolean[] {false, true}) {
            House house = loggedIn(remember);
            CHECKS.same("session(0, 3)", house.session(0, 3), 7);
            house.tick(3);
            CHECKS.same("session(0, 3), later", house.session(0, 3), 7);
            house.enter(0, 5, 0);
            CHECKS.same("session(1, 3)", house.session(1, 3), 10);
        }
    }

    /**
     * At 20, session 0 (not remembered) was used last at 15. Tickets 0 (dead), 1 (granting),
     * 2 (for service 0) and 3 (a proxy ticket for 1) are its own; session 1 is remembered.
     */
    private static House atTwenty() {
        House house = Scenes.start();
        house.login(0, 5, false);
        house.login(0, 5, true);
        house.ticket(0, 0);
        house.validate(0, 0, 0, 3);
        house.tick(15);
        house.ticket(0, 0);
        house.proxy(1, 1);
        house.tick(5);
        return house;
    }

    private static void lasts(String what, int used, Consumer<House> call) {
        House house = atTwenty();
        try {
            call.accept(house);
        } catch (IllegalArgumentException | IllegalStateException e) {
            CHECKS.same(what + " is refused, used last", used, 15);
        }
        CHECKS.same("used last after " + what, house.session(0, 3), used);
        house.tick(used + 30 - 20);
        CHECKS.same("open, 30 after " + used + ", " + what, house.session(0, 1), 1);
        house.tick(1);
        CHECKS.same("open, 31 after " + used + ", " + what, house.session(0, 1), 0);
        CHECKS.same("used last then", house.session(0, 3), used);
    }

    private static void uses() {
        lasts("ticket", 20, h -> h.ticket(0, 1));
        lasts("proxy", 20, h -> h.proxy(1, 1));
        lasts("code 0 for a service ticket", 20, h -> h.validate(2, 0, 0, 0));
        lasts("code 0 for a proxy ticket", 20, h -> h.validate(3, 1, 2, 0));
        lasts("code 0 and a granting ticket", 20, h -> h.validate(2, 0, 4, 5));
    }

    private static void noUses() {
        lasts("code 1, no ticket", 15, h -> h.validate(4, 0, 0, 0));
        lasts("code 1, no service", 15, h -> h.validate(2, 2, 0, 0));
        lasts("code 2, granting", 15, h -> h.validate(1, 0, 2, 0));
        lasts("code 2, proxy", 15, h -> h.validate(3, 1, 0, 0));
        lasts("code 3", 15, h -> h.validate(0, 0, 0, 0));
        lasts("code 4", 15, h -> h.validate(2, 1, 0, 0));
        lasts("code 5", 15, h -> h.validate(2, 0, 1, 0));
        lasts("login", 15, h -> h.login(0, 5, false));
        lasts("enter", 15, h -> h.enter(0, 5, 0));
        lasts("ticket of another session", 15, h -> h.ticket(1, 0));
        lasts("logout of another session", 15, h -> h.logout(1));
        lasts("questions about it", 15, h -> h.session(0, 3));
        lasts("questions about its tickets", 15, h -> h.about(2, 1));
        lasts("a wrong service", 15, h -> h.ticket(0, 2));
        lasts("a wrong service of proxy", 15, h -> h.proxy(1, 2));
        lasts("a wrong kind", 15, h -> h.proxy(2, 0));
        lasts("wrong wishes", 15, h -> h.validate(2, 0, 8, 0));
        lasts("a wrong callback", 15, h -> h.validate(2, 0, 0, 6));
        lasts("a wrong tick", 15, h -> h.tick(201));
    }

    private static void deadTickets() {
        House house = atTwenty();
        house.ticket(1, 0);
        for (Consumer<House> end : List.<Consumer<House>>of(h -> h.logout(0),
                h -> h.tick(31))) {
            House ended = house.again();
            for (int t = 1; t <= 3; t++) {
                CHECKS.same("ticket " + t + " is good", ended.about(t, 1), 1);
            }
            end.accept(ended);
            for (int t = 0; t <= 3; t++) {
                CHECKS.same("ticket " + t + " is good", ended.about(t, 1), 0);
            }
            CHECKS.same("validate(2, 0, 0, 0)", ended.validate(2, 0, 0, 0), 3);
            CHECKS.same("validate(3, 1, 2, 0)", ended.validate(3, 1, 2, 0), 3);
            CHECKS.badState("proxy(1, 0)", ended, h -> h.proxy(1, 0));
        }
        house.logout(0);
        CHECKS.same("a ticket of another session is good", house.about(4, 1), 1);
        CHECKS.same("code for it", house.validate(4, 0, 0, 0), 0);
    }

    private static void logoutEnds() {
        House house = Scenes.start();
        for (int n = 0; n < 40; n++) {
            house.login(0, 5, n % 2 == 0);
        }
        house.tick(3);
        for (int n : new int[] {39, 0, 20}) {
            house.logout(n);
            CHECKS.same("session " + n, Reading.session(house, n),
                    "0 0 0 0 " + (n % 2 == 0 ? 1 : 0));
        }
        for (int n = 0; n < 40; n++) {
            CHECKS.same("session(" + n + ", 1)", house.session(n, 1),
                    n == 39 || n == 0 || n == 20 ? 0 : 1);
        }
    }

    private static void logoutCounts() {
        House house = Scenes.start();
        house.service(1, 5);
        house.login(0, 5, true);
        CHECKS.same("logout without tickets", house.logout(0), 0);
        house.login(0, 5, true);
        house.ticket(1, 0);
        CHECKS.same("logout with a ticket that counts not", house.logout(1), 0);
        house.login(0, 5, true);
        house.ticket(2, 1);
        CHECKS.same("logout with one", house.logout(2), 1);
        house.login(0, 5, true);
        for (int t = 2; t < 150; t++) {
            house.ticket(3, 1);
        }
        CHECKS.same("logout with 148", house.logout(3), 148);
        CHECKS.same("house(3)", house.house(3), 149);
    }

    private static void logoutOfNone() {
        House one = Scenes.start();
        one.login(0, 5, false);
        CHECKS.badOutside("logout(#), one session", one, 0, 0, (h, n) -> h.logout(n));
        House full = Scenes.fullOfSessions();
        CHECKS.badOutside("logout(#), 40 sessions", full, 0, 39, (h, n) -> h.logout(n));
        CHECKS.same("logout(38)", full.logout(38), 0);
        CHECKS.same("logout(0)", full.logout(0), 0);
    }

    private static void logoutTwice() {
        House house = atTwenty();
        house.service(0, 7);
        house.logout(0);
        CHECKS.badState("logout(0) again", house, h -> h.logout(0));
        house.tick(151);
        CHECKS.badState("logout(1), ended by the clock", house, h -> h.logout(1));
        CHECKS.badState("logout(0), later", house, h -> h.logout(0));
    }

    private static void clockGrows() {
        House house = new House();
        int clock = 0;
        for (int n = 1; n <= 200; n++) {
            clock += n;
            CHECKS.same("tick(" + n + ")", house.tick(n), clock);
            CHECKS.same("house(0)", house.house(0), clock);
        }
    }

    private static void wrongTicks() {
        House house = atTwenty();
        Scenes.lock(house, 1);
        house.tick(5);
        CHECKS.badOutside("tick(#)", house, 1, 200, (h, n) -> h.tick(n));
        CHECKS.badOutside("tick(#) at first", new House(), 1, 200, (h, n) -> h.tick(n));
    }

    /** One tick may end sessions by either rule and leave others open. */
    private static void tickEnds() {
        House house = Scenes.start();
        house.login(0, 5, false);
        house.login(0, 5, true);
        house.tick(30);
        house.login(0, 5, false);
        house.ticket(2, 0);
        house.ticket(1, 0);
        CHECKS.same("tick(1)", house.tick(1), 31);
        CHECKS.same("session 0", Reading.session(house, 0), "0 0 0 0 0");
        CHECKS.same("session 1", Reading.session(house, 1), "0 1 0 30 1");
        CHECKS.same("session 2", Reading.session(house, 2), "0 1 30 30 0");
        house.tick(30);
        CHECKS.same("session 2", Reading.session(house, 2), "0 0 30 30 0");
        CHECKS.same("its ticket", house.about(0, 1), 0);
        CHECKS.same("session 1", Reading.session(house, 1), "0 1 0 30 1");
        CHECKS.same("its ticket, too old", house.about(1, 1), 0);
    }

    private static void eachQuestion() {
        House house = Scenes.start();
        for (int u = 0; u < 4; u++) {
            house.password(u, 5);
            house.tick(2);
            house.login(u, 5, u % 2 == 1);
        }
        house.tick(3);
        house.ticket(3, 0);
        house.logout(2);
        CHECKS.same("session 0", Reading.session(house, 0), "0 1 2 2 0");
        CHECKS.same("session 1", Reading.session(house, 1), "1 1 4 4 1");
        CHECKS.same("session 2", Reading.session(house, 2), "2 0 6 6 0");
        CHECKS.same("session 3", Reading.session(house, 3), "3 1 8 11 1");
    }

    private static void noSuchSession() {
        House one = loggedIn(true);
        House full = Scenes.fullOfSessions();
        CHECKS.same("session(39, 0)", full.session(39, 0), 0);
        for (int what = -1; what <= 5; what++) {
            for (int n : Checks.outside(0, 0)) {
                CHECKS.none("session(" + n + ", " + what + ")", one.session(n, what));
            }
            for (int n : Checks.outside(0, 39)) {
                CHECKS.none("session(" + n + ", " + what + ")", full.session(n, what));
            }
        }
    }

    private static void noSuchQuestion() {
        House house = loggedIn(true);
        for (int what : Checks.outside(0, 4)) {
            CHECKS.none("session(0, " + what + ")", house.session(0, what));
            CHECKS.none("session(1, " + what + ")", house.session(1, what));
        }
    }
}
