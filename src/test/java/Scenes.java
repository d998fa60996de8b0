/** Houses in which something has happened already. */
final class Scenes {
    static final int RIGHT = 5;
    static final int BAD = 6;

    private Scenes() {
    }

    /**
     * User 0 has the password RIGHT. Service 0 is enabled and may use proxies, 1 is enabled, 2 is
     * all but enabled, 3 to 5 have no flags.
     */
    static House start() {
        House house = new House();
        house.password(0, RIGHT);
        house.service(0, 3);
        house.service(1, 1);
        house.service(2, 62);
        return house;
    }

    /** In the remembered session 0, ticket 0 was asked for and led to granting ticket 1 for 3. */
    static House granting() {
        House house = start();
        house.login(0, RIGHT, true);
        house.ticket(0, 0);
        house.validate(0, 0, 0, 3);
        return house;
    }

    /** Sessions 0 .. 39, of which the last has ended; user 1 is locked, 2 has no password. */
    static House fullOfSessions() {
        House house = start();
        lock(house, 1);
        for (int n = 0; n < 40; n++) {
            house.login(0, RIGHT, false);
        }
        house.logout(39);
        return house;
    }

    /** As granting(), then tickets of all kinds up to 149; user 1 is locked, 2 has no password. */
    static House fullOfTickets() {
        House house = granting();
        lock(house, 1);
        house.validate(house.proxy(1, 0), 0, 2, 4);
        for (int t = 4; t < 150; t++) {
            if (t % 2 == 0) {
                house.ticket(0, t / 2 % 2);
            } else {
                house.proxy(t % 4, t / 2 % 2);
            }
        }
        return house;
    }

    static void lock(House house, int u) {
        house.password(u, RIGHT);
        for (int i = 0; i < 3; i++) {
            house.login(u, BAD, false);
        }
    }

    static void draft(House house, String row) {
        for (int i = 0; i < row.length(); i++) {
            house.letter(row.charAt(i));
        }
    }

    static void text(House house, int u, int which, String row) {
        draft(house, row);
        house.text(u, which);
    }
}
