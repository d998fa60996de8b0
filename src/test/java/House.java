import java.util.ArrayList;
import java.util.List;

/**
 * A TicketHouse that remembers its calls, so that it can be made again, and that takes no more of
 * them than the document promises anything for: a test can't rest on what a later call answers.
 */
final class House implements Face {
    static final int MOST_CALLS = 512;

    private interface Call {
        int on(TicketHouse house);
    }

    private final TicketHouse house = new TicketHouse();
    private final List<Call> calls = new ArrayList<>();

    private int ask(Call call) {
        if (isSpent()) {
            throw new AssertionError("more calls than an object is promised for");
        }
        calls.add(call);
        return call.on(house);
    }

    @Override
    public boolean isSpent() {
        return calls.size() >= MOST_CALLS;
    }

    int callCount() {
        return calls.size();
    }

    @Override
    public House again() {
        House copy = new House();
        for (Call call : calls) {
            try {
                copy.ask(call);
            } catch (RuntimeException e) {
                // It was refused the first time too.
                continue;
            }
        }
        return copy;
    }

    private static int number(boolean answer) {
        return answer ? 1 : 0;
    }

    @Override
    public int letter(int c) {
        return ask(h -> h.letter(c));
    }

    @Override
    public int text(int u, int which) {
        return ask(h -> h.text(u, which));
    }

    @Override
    public boolean password(int u, int word) {
        return ask(h -> number(h.password(u, word))) == 1;
    }

    @Override
    public int service(int s, int flags) {
        return ask(h -> h.service(s, flags));
    }

    @Override
    public boolean callback(int c, boolean works) {
        return ask(h -> number(h.callback(c, works))) == 1;
    }

    @Override
    public int login(int u, int word, boolean remember) {
        return ask(h -> h.login(u, word, remember));
    }

    @Override
    public int enter(int u, int word, int s) {
        return ask(h -> h.enter(u, word, s));
    }

    @Override
    public int ticket(int session, int s) {
        return ask(h -> h.ticket(session, s));
    }

    @Override
    public int proxy(int g, int s) {
        return ask(h -> h.proxy(g, s));
    }

    @Override
    public int validate(int t, int s, int how, int c) {
        return ask(h -> h.validate(t, s, how, c));
    }

    @Override
    public int logout(int session) {
        return ask(h -> h.logout(session));
    }

    @Override
    public int tick(int n) {
        return ask(h -> h.tick(n));
    }

    @Override
    public int document(int i) {
        return ask(h -> h.document(i));
    }

    @Override
    public int session(int n, int what) {
        return ask(h -> h.session(n, what));
    }

    @Override
    public int about(int t, int what) {
        return ask(h -> h.about(t, what));
    }

    @Override
    public int message(int i) {
        return ask(h -> h.message(i));
    }

    @Override
    public int house(int what) {
        return ask(h -> h.house(what));
    }
}
