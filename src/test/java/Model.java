import java.util.ArrayList;
import java.util.List;

/**
 * The document once more, in texts and growing lists. Death and locks are marked here when they
 * come and tries are kept one by one, so that it shares as little as possible with the program.
 */
final class Model implements Face {
    static final class Session {
        int user;
        int login;
        int used;
        boolean remembered;
        boolean ended;
    }

    static final class Ticket {
        int kind;
        int session;
        int target;
        int given;
        int from = -1;
        boolean fresh;
        boolean dead;
        List<Integer> chain = new ArrayList<>();
    }

    final List<Session> sessions = new ArrayList<>();
    final List<Ticket> tickets = new ArrayList<>();
    final List<Integer> messages = new ArrayList<>();
    String document = "";
    private final String[][] texts = new String[4][4];
    private final Integer[] words = new Integer[4];
    private final List<List<Integer>> wrongTimes = new ArrayList<>();
    private final int[] flags = new int[6];
    private final boolean[] broken = new boolean[6];
    private String draft = "";
    private int clock;

    Model() {
        for (int u = 0; u < 4; u++) {
            wrongTimes.add(new ArrayList<>());
            for (int which = 0; which < 4; which++) {
                texts[u][which] = "";
            }
        }
    }

    private static void argument(boolean holds) {
        if (!holds) {
            throw new IllegalArgumentException();
        }
    }

    private static void state(boolean holds) {
        if (!holds) {
            throw new IllegalStateException();
        }
    }

    private static boolean within(int x, int least, int most) {
        return least <= x && x <= most;
    }

    private boolean has(int s, int flag) {
        return within(s, 0, 5) && flags[s] / flag % 2 == 1;
    }

    @Override
    public int letter(int c) {
        argument(within(c, 32, 126));
        state(draft.length() < 8);
        draft += (char) c;
        return draft.length();
    }

    @Override
    public int text(int u, int which) {
        argument(within(u, 0, 3) && within(which, 0, 3));
        texts[u][which] = draft;
        draft = "";
        return texts[u][which].length();
    }

    @Override
    public boolean password(int u, int word) {
        argument(within(u, 0, 3));
        words[u] = word;
        wrongTimes.get(u).clear();
        return true;
    }

    @Override
    public int service(int s, int now) {
        argument(within(s, 0, 5) && within(now, 0, 63));
        int before = flags[s];
        flags[s] = now;
        return before;
    }

    @Override
    public boolean callback(int c, boolean works) {
        argument(within(c, 1, 5));
        boolean before = !broken[c];
        broken[c] = !works;
        return before;
    }

    private int attempt(int u, int word, boolean remember) {
        if (words[u] == null) {
            return -2;
        }
        if (wrongTimes.get(u).size() == 3) {
            return -3;
        }
        if (words[u] != word) {
            wrongTimes.get(u).add(clock);
            return -2;
        }
        wrongTimes.get(u).clear();
        Session opened = new Session();
        opened.user = u;
        opened.login = clock;
        opened.used = clock;
        opened.remembered = remember;
        sessions.add(opened);
        return sessions.size() - 1;
    }

    private int give(int kind, int session, int target, int from) {
        Ticket made = new Ticket();
        made.kind = kind;
        made.session = session;
        made.target = target;
        made.given = clock;
        made.from = from;
        if (kind == 2) {
            made.chain.add(target);
        }
        if (from >= 0) {
            made.chain.addAll(tickets.get(from).chain);
        }
        tickets.add(made);
        return tickets.size() - 1;
    }

    @Override
    public int login(int u, int word, boolean remember) {
        argument(within(u, 0, 3));
        state(sessions.size() < 40);
        return attempt(u, word, remember);
    }

    @Override
    public int enter(int u, int word, int s) {
        argument(within(u, 0, 3) && has(s, 1));
        state(sessions.size() < 40 && tickets.size() < 150);
        int opened = attempt(u, word, false);
        if (opened < 0) {
            return opened;
        }
        int t = give(0, opened, s, -1);
        tickets.get(t).fresh = true;
        return t;
    }

    @Override
    public int ticket(int session, int s) {
        argument(within(session, 0, sessions.size() - 1) && has(s, 1));
        state(!sessions.get(session).ended && tickets.size() < 150);
        sessions.get(session).used = clock;
        return give(0, session, s, -1);
    }

    @Override
    public int proxy(int g, int s) {
        argument(within(g, 0, tickets.size() - 1) && has(s, 1) && tickets.get(g).kind == 2);
        state(!tickets.get(g).dead && tickets.size() < 150);
        sessions.get(tickets.get(g).session).used = clock;
        return give(1, tickets.get(g).session, s, g);
    }

    private int code(int t, int s, int how) {
        if (!within(t, 0, tickets.size() - 1) || !has(s, 1)) {
            return 1;
        }
        Ticket asked = tickets.get(t);
        if (asked.kind == 2 || asked.kind == 1 && how / 2 % 2 == 0) {
            return 2;
        }
        if (asked.dead) {
            return 3;
        }
        if (asked.target != s) {
            return 4;
        }
        return how % 2 == 1 && !asked.fresh ? 5 : 0;
    }

    @Override
    public int validate(int t, int s, int how, int c) {
        argument(within(how, 0, 7) && within(c, 0, 5));
        int code = code(t, s, how);
        if (code != 1 && code != 2) {
            tickets.get(t).dead = true;
        }
        if (code != 0) {
            document = "<no c=\"" + code + "\">" + t + "</no>";
            return code;
        }
        Session session = sessions.get(tickets.get(t).session);
        session.used = clock;
        boolean grant = c != 0 && !broken[c] && has(s, 2) && tickets.size() < 150;
        String given = grant ? "<g>" + give(2, tickets.get(t).session, c, t) + "</g>" : "";
        document = acceptance(tickets.get(t), session, how >= 4, given);
        return 0;
    }

    private String acceptance(Ticket asked, Session session, boolean attributes, String given) {
        String row = "<ok u=\"" + escaped(texts[session.user][3]) + "\">";
        for (int i = 0; attributes && i < 3; i++) {
            String x = texts[session.user][i];
            if (!x.isEmpty() && has(asked.target, new int[] {8, 16, 32}[i])) {
                row += "<a" + i + ">" + escaped(x) + "</a" + i + ">";
            }
        }
        row += "<d>" + session.login + "</d>" + (session.remembered ? "<l>1</l>" : "");
        row += asked.fresh ? "<n>1</n>" : "<n>0</n>";
        row += given;
        for (int c : asked.chain) {
            row += "<p>" + c + "</p>";
        }
        return row + "</ok>";
    }

    private static String escaped(String row) {
        return row.replace("&", "&amp;").replace("<", "&lt;").replace(">", "&gt;")
                .replace("\"", "&quot;");
    }

    @Override
    public int logout(int session) {
        argument(within(session, 0, sessions.size() - 1));
        state(!sessions.get(session).ended);
        int before = messages.size();
        end(session);
        return messages.size() - before;
    }

    private void end(int session) {
        sessions.get(session).ended = true;
        for (int t = 0; t < tickets.size(); t++) {
            Ticket ticket = tickets.get(t);
            if (ticket.session == session) {
                ticket.dead = true;
                if (ticket.kind == 0 && has(ticket.target, 4)) {
                    messages.add(1000 * ticket.target + t);
                }
            }
        }
    }

    @Override
    public int tick(int n) {
        argument(within(n, 1, 200));
        clock += n;
        for (int i = 0; i < sessions.size(); i++) {
            Session session = sessions.get(i);
            boolean idle = clock > session.used + (session.remembered ? 150 : 30);
            boolean old = clock > session.login + (session.remembered ? 400 : 120);
            if (!session.ended && (idle || old)) {
                end(i);
            }
        }
        for (Ticket ticket : tickets) {
            ticket.dead |= clock > ticket.given + (ticket.kind == 2 ? 60 : 10);
        }
        for (List<Integer> times : wrongTimes) {
            if (times.size() == 3 && clock > times.get(2) + 20) {
                times.clear();
            }
        }
        return clock;
    }

    @Override
    public int document(int i) {
        if (i == -1) {
            return document.length();
        }
        return within(i, 0, document.length() - 1) ? document.charAt(i) : -1;
    }

    @Override
    public int session(int n, int what) {
        if (!within(n, 0, sessions.size() - 1) || !within(what, 0, 4)) {
            return -1;
        }
        Session found = sessions.get(n);
        return new int[] {found.user, found.ended ? 0 : 1, found.login, found.used,
            found.remembered ? 1 : 0}[what];
    }

    @Override
    public int about(int t, int what) {
        if (!within(t, 0, tickets.size() - 1) || !within(what, 0, 7)) {
            return -1;
        }
        Ticket found = tickets.get(t);
        return new int[] {found.kind, found.dead ? 0 : 1, found.session, found.target, found.given,
            found.fresh ? 1 : 0, found.from, found.chain.size()}[what];
    }

    @Override
    public int message(int i) {
        return within(i, 0, messages.size() - 1) ? messages.get(i) : -1;
    }

    @Override
    public int house(int what) {
        if (!within(what, 0, 8)) {
            return -1;
        }
        return what >= 5 ? wrongTimes.get(what - 5).size() : new int[] {clock, sessions.size(),
            tickets.size(), messages.size(), draft.length()}[what];
    }

    /** Reading changes nothing here, and no calls are counted. */
    @Override
    public Face again() {
        return this;
    }

    @Override
    public boolean isSpent() {
        return false;
    }
}
