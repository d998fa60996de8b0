import java.util.function.ToIntFunction;

/** Reads a house without a call on it: copies of it are asked, as many as that takes. */
final class Reading {
    private static final int[] WORDS = {0, 5, 6, 9, Integer.MIN_VALUE, Integer.MAX_VALUE};

    private final Face original;
    private Face copy;

    private Reading(Face original) {
        this.original = original;
        copy = original.again();
    }

    private int ask(ToIntFunction<Face> question) {
        if (copy.isSpent()) {
            copy = original.again();
        }
        return question.applyAsInt(copy);
    }

    static String document(Face house) {
        Reading reading = new Reading(house);
        int length = reading.ask(h -> h.document(TicketHouse.NONE));
        StringBuilder row = new StringBuilder();
        for (int i = 0; i < length; i++) {
            int at = i;
            row.append((char) reading.ask(h -> h.document(at)));
        }
        return row.toString();
    }

    static String messages(Face house) {
        Reading reading = new Reading(house);
        int count = reading.ask(h -> h.house(3));
        StringBuilder row = new StringBuilder();
        for (int i = 0; i < count; i++) {
            int at = i;
            row.append(reading.ask(h -> h.message(at))).append(' ');
        }
        return row.toString().trim();
    }

    /** All answers about a session, in their order. */
    static String session(Face house, int n) {
        return new Reading(house).sessionRow(n);
    }

    private String sessionRow(int n) {
        StringBuilder row = new StringBuilder();
        for (int i = 0; i <= 4; i++) {
            int what = i;
            row.append(ask(h -> h.session(n, what))).append(' ');
        }
        return row.toString().trim();
    }

    /** All answers about a ticket, in their order. */
    static String ticket(Face house, int t) {
        return new Reading(house).ticketRow(t);
    }

    private String ticketRow(int t) {
        StringBuilder row = new StringBuilder();
        for (int i = 0; i <= 7; i++) {
            int what = i;
            row.append(ask(h -> h.about(t, what))).append(' ');
        }
        return row.toString().trim();
    }

    /** All that the questions of the face tell. */
    static String visible(Face house) {
        Reading reading = new Reading(house);
        StringBuilder row = new StringBuilder();
        for (int i = 0; i <= 8; i++) {
            int what = i;
            row.append(reading.ask(h -> h.house(what))).append(' ');
        }
        row.append("| ").append(document(house)).append(" | ").append(messages(house));
        int sessions = reading.ask(h -> h.house(1));
        for (int n = 0; n < sessions; n++) {
            row.append(" | s ").append(reading.sessionRow(n));
        }
        int tickets = reading.ask(h -> h.house(2));
        for (int t = 0; t < tickets; t++) {
            row.append(" | t ").append(reading.ticketRow(t));
        }
        return row.toString();
    }

    /** That, and what only comes to light by later calls: they are made on copies. */
    static String all(House house) {
        StringBuilder row = new StringBuilder(visible(house));
        for (int s = 0; s < 6; s++) {
            row.append(" | f ").append(house.again().service(s, 0));
        }
        for (int c = 1; c <= 5; c++) {
            row.append(" | c ").append(house.again().callback(c, true));
        }
        for (int u = 0; u < 4; u++) {
            row.append(" | words").append(words(house, u));
            row.append(" | texts ").append(texts(house, u));
        }
        House drafted = house.again();
        drafted.text(3, 3);
        row.append(" | draft ").append(texts(drafted, 3));
        return row.append(locks(house)).toString();
    }

    private static String words(House house, int u) {
        StringBuilder row = new StringBuilder();
        for (int word : WORDS) {
            House copy = house.again();
            copy.tick(21);
            try {
                row.append(' ').append(copy.login(u, word, false));
            } catch (IllegalStateException e) {
                row.append(" full");
            }
        }
        return row.toString();
    }

    private static String texts(House house, int u) {
        House copy = house.again();
        copy.password(u, 5);
        copy.service(5, 63);
        int t = new Reading(copy).ticketOf(u);
        if (t == TicketHouse.NONE) {
            t = newTicket(copy, u);
        }
        if (t == TicketHouse.NONE) {
            return "nothing shows them";
        }
        int s = copy.about(t, 3);
        copy.service(s, 63);
        copy.validate(t, s, 6, 0);
        return document(copy);
    }

    /** One of the user's that is good and that services can ask for, or NONE. */
    private int ticketOf(int u) {
        int count = ask(h -> h.house(2));
        for (int i = count - 1; i >= 0; i--) {
            int t = i;
            int session = ask(h -> h.about(t, 2));
            if (ask(h -> h.about(t, 1)) == 1 && ask(h -> h.about(t, 0)) != 2
                    && ask(h -> h.session(session, 0)) == u) {
                return t;
            }
        }
        return TicketHouse.NONE;
    }

    private static int newTicket(House copy, int u) {
        try {
            return copy.enter(u, 5, 5);
        } catch (IllegalStateException e) {
            return ticketOfASession(copy, u);
        }
    }

    private static int ticketOfASession(House copy, int u) {
        for (int n = 0; n < 40 && copy.house(2) < 150; n++) {
            if (copy.session(n, 0) == u && copy.session(n, 1) == 1) {
                return copy.ticket(n, 5);
            }
        }
        return TicketHouse.NONE;
    }

    private static String locks(House house) {
        StringBuilder row = new StringBuilder(" | locks");
        for (int u = 0; u < 4; u++) {
            for (int n = 1; n <= 21 && house.again().house(5 + u) == 3; n++) {
                House copy = house.again();
                copy.tick(n);
                row.append(' ').append(copy.house(5 + u));
            }
        }
        return row.toString();
    }
}
