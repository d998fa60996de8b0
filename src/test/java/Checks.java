/**
 * Counts and prints the answers that are not as due, and helps tests to use a house. Reading all
 * that can be seen takes some tests past the 512 calls of the document: the program counts no
 * calls, so its answers stay as promised there.
 */
final class Checks {
    private static final Class<IllegalArgumentException> ARGUMENT = IllegalArgumentException.class;
    private static final Class<IllegalStateException> STATE = IllegalStateException.class;

    private int wrong;

    void same(String what, long got, long due) {
        if (got != due) {
            wrong++;
            System.out.println(what + " answered " + got + ", due is " + due);
        }
    }

    void same(String what, boolean got, boolean due) {
        same(what, got ? 1 : 0, due ? 1 : 0);
    }

    void same(String what, String got, String due) {
        if (!got.equals(due)) {
            wrong++;
            System.out.println(what + " answered\n  " + got + ", due is\n  " + due);
        }
    }

    void badArgument(String what, TicketHouse house, Runnable call) {
        refused(what, house, ARGUMENT, call);
    }

    void badState(String what, TicketHouse house, Runnable call) {
        refused(what, house, STATE, call);
    }

    /** The call must throw exactly this, and leave everything that can be seen as it was. */
    private void refused(String what, TicketHouse house, Class<?> due, Runnable call) {
        String before = all(house);
        String thrown = "nothing";
        try {
            call.run();
        } catch (RuntimeException e) {
            thrown = e.getClass().getName();
        }
        same(what + " throws", thrown, due.getName());
        same("all that can be seen after " + what, all(house), before);
    }

    void end(String test) {
        System.out.println(wrong == 0 ? test + ": as due" : test + ": " + wrong + " not as due");
        if (wrong != 0) {
            System.exit(1);
        }
    }

    static void draft(TicketHouse house, String row) {
        for (int i = 0; i < row.length(); i++) {
            house.letter(row.charAt(i));
        }
    }

    static void text(TicketHouse house, int u, int which, String row) {
        draft(house, row);
        house.text(u, which);
    }

    static String document(TicketHouse house) {
        StringBuilder row = new StringBuilder();
        int length = house.document(TicketHouse.NONE);
        for (int i = 0; i < length; i++) {
            row.append((char) house.document(i));
        }
        return row.toString();
    }

    static String messages(TicketHouse house) {
        StringBuilder row = new StringBuilder();
        for (int i = 0; i < house.house(3); i++) {
            row.append(house.message(i)).append(' ');
        }
        return row.toString().trim();
    }

    static String session(TicketHouse house, int n) {
        StringBuilder row = new StringBuilder();
        for (int what = 0; what <= 4; what++) {
            row.append(house.session(n, what)).append(' ');
        }
        return row.toString().trim();
    }

    static String ticket(TicketHouse house, int t) {
        StringBuilder row = new StringBuilder();
        for (int what = 0; what <= 7; what++) {
            row.append(house.about(t, what)).append(' ');
        }
        return row.toString().trim();
    }

    /** Flags and callbacks can be read only by setting them: they are set back at once. */
    static String all(TicketHouse house) {
        StringBuilder row = new StringBuilder();
        for (int what = 0; what <= 8; what++) {
            row.append(house.house(what)).append(' ');
        }
        row.append('|').append(document(house)).append('|').append(messages(house));
        for (int n = 0; n < house.house(1); n++) {
            row.append("|s ").append(session(house, n));
        }
        for (int t = 0; t < house.house(2); t++) {
            row.append("|t ").append(ticket(house, t));
        }
        for (int s = 0; s < 6; s++) {
            int flags = house.service(s, 0);
            house.service(s, flags);
            row.append("|f ").append(flags);
        }
        for (int c = 1; c <= 5; c++) {
            boolean works = house.callback(c, true);
            house.callback(c, works);
            row.append("|c ").append(works);
        }
        return row.toString();
    }
}
