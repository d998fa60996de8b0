/**
 * A server by which people sign on once: it knows users, services and callbacks, opens sessions,
 * gives tickets, answers those who ask for a ticket with a small document, and tells the services
 * concerned when a session ends.
 */
public final class TicketHouse {
    public static final int NONE = -1;
    public static final int WRONG = -2;
    public static final int LOCKED = -3;

    private static final int USERS = 4;
    private static final int SERVICES = 6;
    private static final int CALLBACKS = 5;
    private static final int MOST_SESSIONS = 40;
    private static final int MOST_TICKETS = 150;
    private static final int LONGEST_TICK = 200;

    private static final int FIRST_CHARACTER = 32;
    private static final int LAST_CHARACTER = 126;
    private static final int LONGEST_TEXT = 8;
    // The longest document has a name and three attributes of 8 quotes and a chain of 74 callbacks:
    // under 900 characters.
    private static final int LONGEST_DOCUMENT = 1024;

    private static final int ATTRIBUTES = 3;
    private static final int NAME = 3;

    private static final int ENABLED = 1;
    private static final int MAY_USE_PROXIES = 2;
    private static final int TOLD = 4;
    private static final int FIRST_RELEASED = 8;
    private static final int ALL_FLAGS = 63;

    private static final int RENEWAL_WANTED = 1;
    private static final int PROXIES_ACCEPTED = 2;
    private static final int ATTRIBUTES_WANTED = 4;
    private static final int ALL_WISHES = 7;

    private static final int SERVICE_TICKET = 0;
    private static final int PROXY_TICKET = 1;
    private static final int GRANTING_TICKET = 2;

    private static final int ACCEPTED = 0;
    private static final int UNKNOWN = 1;
    private static final int OF_WRONG_KIND = 2;
    private static final int DEAD = 3;
    private static final int FOR_ANOTHER_SERVICE = 4;
    private static final int NOT_FRESH = 5;

    private static final int RIGHT = 0;
    private static final int MESSAGE_SERVICE_STEP = 1000;
    private static final int FIRST_TRIES_QUESTION = 5;

    private final User[] users = new User[USERS];
    private final int[] flags = new int[SERVICES];
    private final boolean[] works = new boolean[CALLBACKS + 1];
    private final Session[] sessions = new Session[MOST_SESSIONS];
    private final Ticket[] tickets = new Ticket[MOST_TICKETS];
    // A service ticket makes one message at most, when its session ends.
    private final int[] messages = new int[MOST_TICKETS];
    private final Text draft = new Text(LONGEST_TEXT);
    private final Text page = new Text(LONGEST_DOCUMENT);
    private int sessionCount;
    private int ticketCount;
    private int messageCount;
    private int clock;

    public TicketHouse() {
        for (int u = 0; u < USERS; u++) {
            users[u] = new User(u);
        }
        for (int c = 1; c <= CALLBACKS; c++) {
            works[c] = true;
        }
    }

    public int letter(int c) throws IllegalArgumentException, IllegalStateException {
        if (c < FIRST_CHARACTER || c > LAST_CHARACTER) {
            throw new IllegalArgumentException("not a character of texts");
        }
        if (draft.length >= LONGEST_TEXT) {
            throw new IllegalStateException("the draft is full");
        }
        draft.add((char) c);
        return draft.length;
    }

    public int text(int u, int which) throws IllegalArgumentException {
        User user = findUser(u);
        if (user == null || which < 0 || which > NAME) {
            throw new IllegalArgumentException("no such user or text");
        }
        Text text = user.texts[which];
        text.become(draft);
        draft.clear();
        return text.length;
    }

    public boolean password(int u, int word) throws IllegalArgumentException {
        User user = findUser(u);
        if (user == null) {
            throw new IllegalArgumentException("no such user");
        }
        user.setWord(word);
        return true;
    }

    public int service(int s, int flags) throws IllegalArgumentException {
        if (!isService(s) || flags < 0 || flags > ALL_FLAGS) {
            throw new IllegalArgumentException("no such service or flags");
        }
        int before = this.flags[s];
        this.flags[s] = flags;
        return before;
    }

    public boolean callback(int c, boolean works) throws IllegalArgumentException {
        if (c < 1 || c > CALLBACKS) {
            throw new IllegalArgumentException("no such callback");
        }
        boolean before = this.works[c];
        this.works[c] = works;
        return before;
    }

    public int login(int u, int word, boolean remember)
            throws IllegalArgumentException, IllegalStateException {
        User user = findUser(u);
        if (user == null) {
            throw new IllegalArgumentException("no such user");
        }
        if (sessionCount >= MOST_SESSIONS) {
            throw new IllegalStateException("no more sessions");
        }
        int outcome = user.attempt(word, clock);
        return outcome == RIGHT ? openSession(user, remember).number : outcome;
    }

    public int enter(int u, int word, int s)
            throws IllegalArgumentException, IllegalStateException {
        User user = findUser(u);
        if (user == null || !isEnabled(s)) {
            throw new IllegalArgumentException("no such user or enabled service");
        }
        if (sessionCount >= MOST_SESSIONS || ticketCount >= MOST_TICKETS) {
            throw new IllegalStateException("no more sessions or tickets");
        }
        int outcome = user.attempt(word, clock);
        if (outcome != RIGHT) {
            return outcome;
        }
        Ticket given = giveTicket(SERVICE_TICKET, openSession(user, false), s, null);
        given.fresh = true;
        return given.number;
    }

    public int ticket(int session, int s) throws IllegalArgumentException, IllegalStateException {
        Session of = findSession(session);
        if (of == null || !isEnabled(s)) {
            throw new IllegalArgumentException("no such session or enabled service");
        }
        if (!of.open || ticketCount >= MOST_TICKETS) {
            throw new IllegalStateException("the session has ended, or no more tickets");
        }
        of.used = clock;
        return giveTicket(SERVICE_TICKET, of, s, null).number;
    }

    public int proxy(int g, int s) throws IllegalArgumentException, IllegalStateException {
        Ticket granting = findTicket(g);
        if (granting == null || granting.kind != GRANTING_TICKET || !isEnabled(s)) {
            throw new IllegalArgumentException("no such granting ticket or enabled service");
        }
        if (!granting.isGood(clock) || ticketCount >= MOST_TICKETS) {
            throw new IllegalStateException("the ticket is dead, or no more tickets");
        }
        granting.session.used = clock;
        return giveTicket(PROXY_TICKET, granting.session, s, granting).number;
    }

    public int validate(int t, int s, int how, int c) throws IllegalArgumentException {
        if (how < 0 || how > ALL_WISHES || c < 0 || c > CALLBACKS) {
            throw new IllegalArgumentException("no such wishes or callback");
        }
        Ticket asked = findTicket(t);
        if (asked == null || !isEnabled(s)) {
            return refuse(UNKNOWN, t);
        }
        int code = asked.judge(s, how, clock);
        if (code == OF_WRONG_KIND) {
            return refuse(code, t);
        }
        asked.spent = true;
        if (code != ACCEPTED) {
            return refuse(code, t);
        }
        asked.session.used = clock;
        writeAcceptance(asked, (how & ATTRIBUTES_WANTED) != 0, grantFor(asked, c));
        return ACCEPTED;
    }

    public int logout(int session) throws IllegalArgumentException, IllegalStateException {
        Session ending = findSession(session);
        if (ending == null) {
            throw new IllegalArgumentException("no such session");
        }
        if (!ending.open) {
            throw new IllegalStateException("the session has ended");
        }
        return end(ending);
    }

    public int tick(int n) throws IllegalArgumentException {
        if (n < 1 || n > LONGEST_TICK) {
            throw new IllegalArgumentException("the clock can't grow by that");
        }
        clock += n;
        for (int u = 0; u < USERS; u++) {
            users[u].unlockIfDue(clock);
        }
        for (int i = 0; i < sessionCount; i++) {
            if (sessions[i].open && sessions[i].isOver(clock)) {
                end(sessions[i]);
            }
        }
        return clock;
    }

    public int document(int i) {
        return i == NONE ? page.length : page.at(i);
    }

    public int session(int n, int what) {
        Session found = findSession(n);
        if (found == null) {
            return NONE;
        }
        switch (what) {
            case 0: return found.user.number;
            case 1: return oneIf(found.open);
            case 2: return found.login;
            case 3: return found.used;
            case 4: return oneIf(found.remembered);
            default: return NONE;
        }
    }

    public int about(int t, int what) {
        Ticket found = findTicket(t);
        if (found == null) {
            return NONE;
        }
        switch (what) {
            case 0: return found.kind;
            case 1: return oneIf(found.isGood(clock));
            case 2: return found.session.number;
            case 3: return found.target;
            case 4: return found.given;
            case 5: return oneIf(found.fresh);
            case 6: return found.from == null ? NONE : found.from.number;
            case 7: return found.chainLength;
            default: return NONE;
        }
    }

    public int message(int i) {
        return i >= 0 && i < messageCount ? messages[i] : NONE;
    }

    public int house(int what) {
        switch (what) {
            case 0: return clock;
            case 1: return sessionCount;
            case 2: return ticketCount;
            case 3: return messageCount;
            case 4: return draft.length;
            default: return wrongTries(what - FIRST_TRIES_QUESTION);
        }
    }

    private int wrongTries(int u) {
        User user = findUser(u);
        return user == null ? NONE : user.wrongTries;
    }

    private User findUser(int u) {
        return u >= 0 && u < USERS ? users[u] : null;
    }

    private Session findSession(int n) {
        return n >= 0 && n < sessionCount ? sessions[n] : null;
    }

    private Ticket findTicket(int t) {
        return t >= 0 && t < ticketCount ? tickets[t] : null;
    }

    private static boolean isService(int s) {
        return s >= 0 && s < SERVICES;
    }

    private boolean isEnabled(int s) {
        return hasFlag(s, ENABLED);
    }

    private boolean hasFlag(int s, int flag) {
        return isService(s) && (flags[s] & flag) != 0;
    }

    private static int oneIf(boolean condition) {
        return condition ? 1 : 0;
    }

    /** The caller has seen to it that there is room for one more. */
    private Session openSession(User user, boolean remembered) {
        Session opened = new Session(sessionCount, user, clock, remembered);
        sessions[sessionCount] = opened;
        sessionCount++;
        return opened;
    }

    /** The caller has seen to it that there is room for one more. */
    private Ticket giveTicket(int kind, Session session, int target, Ticket from) {
        Ticket made = new Ticket(ticketCount, kind, session, target, clock, from);
        tickets[ticketCount] = made;
        ticketCount++;
        return made;
    }

    /** The granting ticket to which an accepted ticket leads, or null. */
    private Ticket grantFor(Ticket asked, int c) {
        // works[0] is never true, so that no callback is one that does not work.
        boolean due = works[c] && hasFlag(asked.target, MAY_USE_PROXIES)
                && ticketCount < MOST_TICKETS;
        return due ? giveTicket(GRANTING_TICKET, asked.session, c, asked) : null;
    }

    private int end(Session session) {
        session.open = false;
        int before = messageCount;
        for (int t = 0; t < ticketCount; t++) {
            if (tickets[t].session == session) {
                tellOfEnd(tickets[t]);
            }
        }
        return messageCount - before;
    }

    private void tellOfEnd(Ticket ticket) {
        if (ticket.kind == SERVICE_TICKET && hasFlag(ticket.target, TOLD)
                && messageCount < messages.length) {
            messages[messageCount] = MESSAGE_SERVICE_STEP * ticket.target + ticket.number;
            messageCount++;
        }
    }

    private int refuse(int code, int t) {
        page.clear();
        page.addAll("<no c=\"");
        page.addNumber(code);
        page.addAll("\">");
        page.addNumber(t);
        page.addAll("</no>");
        return code;
    }

    private void writeAcceptance(Ticket asked, boolean withAttributes, Ticket granting) {
        Session session = asked.session;
        page.clear();
        page.addAll("<ok u=\"");
        page.addEscaped(session.user.texts[NAME]);
        page.addAll("\">");
        if (withAttributes) {
            writeAttributes(session.user, asked.target);
        }
        page.addElement('d', session.login);
        if (session.remembered) {
            page.addElement('l', 1);
        }
        page.addElement('n', oneIf(asked.fresh));
        if (granting != null) {
            page.addElement('g', granting.number);
        }
        writeChain(asked);
        page.addAll("</ok>");
    }

    private void writeAttributes(User user, int s) {
        for (int i = 0; i < ATTRIBUTES; i++) {
            Text attribute = user.texts[i];
            if (hasFlag(s, FIRST_RELEASED << i) && attribute.length > 0) {
                page.addAll("<a");
                page.addNumber(i);
                page.add('>');
                page.addEscaped(attribute);
                page.addAll("</a");
                page.addNumber(i);
                page.add('>');
            }
        }
    }

    private void writeChain(Ticket asked) {
        for (Ticket link = asked; link != null; link = link.from) {
            if (link.kind == GRANTING_TICKET) {
                page.addElement('p', link.target);
            }
        }
    }

    /** A row of characters with a fixed room, so that writing makes no new objects. */
    private static final class Text {
        private static final int MOST_DIGITS = 10;

        private final char[] characters;
        private int length;

        Text(int room) {
            characters = new char[room];
        }

        void clear() {
            length = 0;
        }

        void add(char c) {
            if (length < characters.length) {
                characters[length] = c;
                length++;
            }
        }

        void addAll(String row) {
            for (int i = 0; i < row.length(); i++) {
                add(row.charAt(i));
            }
        }

        void addNumber(int number) {
            // Counted below zero, since the least int has no counterpart above it.
            int rest = number < 0 ? number : -number;
            if (number < 0) {
                add('-');
            }
            int first = length;
            for (int i = 0; i < MOST_DIGITS && (i == 0 || rest != 0); i++) {
                add((char) ('0' - rest % 10));
                rest = rest / 10;
            }
            turnRound(first);
        }

        private void turnRound(int first) {
            for (int low = first, high = length - 1; low < high; low++, high--) {
                char kept = characters[low];
                characters[low] = characters[high];
                characters[high] = kept;
            }
        }

        void addElement(char tag, int number) {
            add('<');
            add(tag);
            add('>');
            addNumber(number);
            addAll("</");
            add(tag);
            add('>');
        }

        void addEscaped(Text other) {
            for (int i = 0; i < other.length; i++) {
                addEscaped(other.characters[i]);
            }
        }

        private void addEscaped(char c) {
            switch (c) {
                case '&': addAll("&amp;"); break;
                case '<': addAll("&lt;"); break;
                case '>': addAll("&gt;"); break;
                case '"': addAll("&quot;"); break;
                default: add(c);
            }
        }

        void become(Text other) {
            clear();
            for (int i = 0; i < other.length; i++) {
                add(other.characters[i]);
            }
        }

        int at(int i) {
            return i >= 0 && i < length ? characters[i] : NONE;
        }
    }

    /** One who can log in: texts, a password or none, and the wrong tries that count. */
    private static final class User {
        private static final int TRIES_THAT_LOCK = 3;
        private static final int LOCK_TIME = 20;

        private final int number;
        private final Text[] texts = new Text[NAME + 1];
        private boolean hasWord;
        private int word;
        private int wrongTries;
        private int latestWrong;

        User(int number) {
            this.number = number;
            for (int i = 0; i < texts.length; i++) {
                texts[i] = new Text(LONGEST_TEXT);
            }
        }

        void setWord(int word) {
            this.word = word;
            hasWord = true;
            wrongTries = 0;
        }

        int attempt(int tried, int clock) {
            if (!hasWord) {
                return WRONG;
            }
            if (wrongTries >= TRIES_THAT_LOCK) {
                return LOCKED;
            }
            if (tried == word) {
                wrongTries = 0;
                return RIGHT;
            }
            wrongTries++;
            latestWrong = clock;
            return WRONG;
        }

        void unlockIfDue(int clock) {
            if (wrongTries >= TRIES_THAT_LOCK && clock - latestWrong > LOCK_TIME) {
                wrongTries = 0;
            }
        }
    }

    /** The time from a login until its end. */
    private static final class Session {
        private static final int IDLE_TIME = 30;
        private static final int REMEMBERED_IDLE_TIME = 150;
        private static final int WHOLE_TIME = 120;
        private static final int REMEMBERED_WHOLE_TIME = 400;

        private final int number;
        private final User user;
        private final int login;
        private final boolean remembered;
        private int used;
        private boolean open = true;

        Session(int number, User user, int login, boolean remembered) {
            this.number = number;
            this.user = user;
            this.login = login;
            this.remembered = remembered;
            used = login;
        }

        boolean isOver(int clock) {
            int idle = remembered ? REMEMBERED_IDLE_TIME : IDLE_TIME;
            int whole = remembered ? REMEMBERED_WHOLE_TIME : WHOLE_TIME;
            return clock - used > idle || clock - login > whole;
        }
    }

    /** A ticket of any kind; its target is a service, of a granting ticket a callback. */
    private static final class Ticket {
        private static final int LIFE = 10;
        private static final int GRANTING_LIFE = 60;

        private final int number;
        private final int kind;
        private final Session session;
        private final int target;
        private final int given;
        private final Ticket from;
        private final int chainLength;
        private boolean fresh;
        private boolean spent;

        Ticket(int number, int kind, Session session, int target, int given, Ticket from) {
            this.number = number;
            this.kind = kind;
            this.session = session;
            this.target = target;
            this.given = given;
            this.from = from;
            int inherited = from == null ? 0 : from.chainLength;
            chainLength = kind == GRANTING_TICKET ? inherited + 1 : inherited;
        }

        boolean isGood(int clock) {
            int life = kind == GRANTING_TICKET ? GRANTING_LIFE : LIFE;
            return !spent && session.open && clock - given <= life;
        }

        /** The code for one who asks for this ticket in the name of an enabled service. */
        int judge(int s, int how, int clock) {
            if (kind == GRANTING_TICKET
                    || kind == PROXY_TICKET && (how & PROXIES_ACCEPTED) == 0) {
                return OF_WRONG_KIND;
            }
            if (!isGood(clock)) {
                return DEAD;
            }
            if (target != s) {
                return FOR_ANOTHER_SERVICE;
            }
            if ((how & RENEWAL_WANTED) != 0 && !fresh) {
                return NOT_FRESH;
            }
            return ACCEPTED;
        }
    }
}
