/** The document's face, so that the program and the second model are asked and read alike. */
interface Face {
    int letter(int c);

    int text(int u, int which);

    boolean password(int u, int word);

    int service(int s, int flags);

    boolean callback(int c, boolean works);

    int login(int u, int word, boolean remember);

    int enter(int u, int word, int s);

    int ticket(int session, int s);

    int proxy(int g, int s);

    int validate(int t, int s, int how, int c);

    int logout(int session);

    int tick(int n);

    int document(int i);

    int session(int n, int what);

    int about(int t, int what);

    int message(int i);

    int house(int what);

    /** One that has lived through the same calls: reading it does not count for this one. */
    Face again();

    /** Whether it has had all the calls that an object is promised for. */
    boolean isSpent();
}
