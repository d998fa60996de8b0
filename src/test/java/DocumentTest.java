/** Promise 14 (document): how the document is written, and how it is read. */
public final class DocumentTest {
    private static final Checks CHECKS = new Checks();
    private static final int[] NUMBERS = {Integer.MIN_VALUE, Integer.MIN_VALUE + 1, -2000000000,
        -1000000000, -999999999, -101, -100, -99, -10, -9, -2, -1, 3, 9, 10, 11, 99, 100, 101, 149,
        150, 999999999, 1000000000, 1999999999, Integer.MAX_VALUE - 1, Integer.MAX_VALUE};

    public static void main(String[] args) {
        CHECKS.holds("The DOCUMENT for a code above 0 is <no c=\"C\">T</no>", DocumentTest::no);
        CHECKS.holds("Numbers are written as decimals, with - if below 0", DocumentTest::numbers);
        CHECKS.holds("For code 0 it is, one behind the other: <ok u=\"N\"> ..", DocumentTest::ok);
        CHECKS.holds("if attributes are wanted: <aI>X</aI>", DocumentTest::attributesWanted);
        CHECKS.holds("for each attribute I, by rising I, that is released to the service and not "
                + "empty", DocumentTest::attributes);
        CHECKS.holds("<d>T</d> with the time of login", DocumentTest::timeOfLogin);
        CHECKS.holds("<l>1</l> if the session is remembered; <n>1</n> or <n>0</n> whether it is "
                + "fresh", DocumentTest::rememberedAndFresh);
        CHECKS.holds("if a granting ticket was given, <g>T</g> with its number",
                DocumentTest::granted);
        CHECKS.holds("for each callback C of the ticket's chain, in its order, <p>C</p>",
                DocumentTest::chain);
        CHECKS.holds("In names and attributes & < > \" are written &amp; &lt; &gt; &quot;",
                DocumentTest::escapes);
        CHECKS.holds("the longest document that 512 calls can lead to", DocumentTest::longest);
        CHECKS.holds("14: Character i (from 0); for i NONE how long it is", DocumentTest::read);
        CHECKS.holds("14: NONE when there is none", DocumentTest::readOutside);
        CHECKS.holds("14: of the latest document", DocumentTest::latest);
        CHECKS.end("document");
    }

    /** Ann (user 0) has the session 0 since 4, with service ticket 0 for service 0. */
    private static House ann() {
        House house = Scenes.start();
        Scenes.text(house, 0, 3, "Ann");
        house.tick(4);
        house.login(0, 5, false);
        house.ticket(0, 0);
        return house;
    }

    private static void documentIs(String what, House house, String due) {
        CHECKS.same(what, Reading.document(house), due);
    }

    private static void no() {
        House house = ann();
        house.ticket(0, 0);
        house.validate(0, 0, 0, 5);
        house.validate(7, 0, 0, 0);
        documentIs("code 1", house, "<no c=\"1\">7</no>");
        house.validate(2, 0, 2, 0);
        documentIs("code 2", house, "<no c=\"2\">2</no>");
        house.validate(0, 0, 0, 0);
        documentIs("code 3", house, "<no c=\"3\">0</no>");
        house.validate(1, 1, 0, 0);
        documentIs("code 4", house, "<no c=\"4\">1</no>");
        house.validate(house.ticket(0, 0), 0, 1, 0);
        documentIs("code 5", house, "<no c=\"5\">3</no>");
    }

    private static void numbers() {
        House house = ann();
        for (int t : NUMBERS) {
            CHECKS.same("code", house.validate(t, 0, 0, 0), 1);
            documentIs("asked for " + t, house, "<no c=\"1\">" + t + "</no>");
        }
        house.validate(0, Integer.MIN_VALUE, 0, 0);
        documentIs("no service", house, "<no c=\"1\">0</no>");
    }

    private static void ok() {
        House house = ann();
        House nameless = house.again();
        CHECKS.same("code", house.validate(0, 0, 0, 0), 0);
        documentIs("Ann", house, "<ok u=\"Ann\"><d>4</d><n>0</n></ok>");
        nameless.text(0, 3);
        nameless.validate(0, 0, 0, 0);
        documentIs("an empty name", nameless, "<ok u=\"\"><d>4</d><n>0</n></ok>");
        house = ann();
        Scenes.text(house, 0, 3, "12345678");
        house.validate(0, 0, 0, 0);
        documentIs("the longest name", house, "<ok u=\"12345678\"><d>4</d><n>0</n></ok>");
    }

    private static void attributesWanted() {
        for (int how = 0; how <= 7; how++) {
            House house = Scenes.start();
            Scenes.text(house, 0, 1, "one");
            house.service(0, 63);
            house.validate(house.enter(0, 5, 0), 0, how, 0);
            documentIs("how " + how, house, "<ok u=\"\">" + (how >= 4 ? "<a1>one</a1>" : "")
                    + "<d>0</d><n>1</n></ok>");
        }
    }

    private static void attributes() {
        for (int filled = 0; filled < 8; filled++) {
            for (int released = 0; released < 8; released++) {
                House house = Scenes.start();
                StringBuilder due = new StringBuilder("<ok u=\"\">");
                for (int i = 2; i >= 0; i--) {
                    Scenes.text(house, 0, i, (filled >> i & 1) == 1 ? "x" + i : "");
                    Scenes.text(house, 1, i, "other");
                }
                for (int i = 0; i < 3; i++) {
                    if (((filled & released) >> i & 1) == 1) {
                        due.append("<a" + i + ">x" + i + "</a" + i + ">");
                    }
                }
                house.service(1, 1 + 8 * 7);
                house.service(0, 1 + 8 * released);
                house.validate(house.enter(0, 5, 0), 0, 4, 0);
                documentIs("filled " + filled + ", released " + released, house,
                        due + "<d>0</d><n>1</n></ok>");
            }
        }
    }

    private static void timeOfLogin() {
        for (int ticks : new int[] {0, 1, 9, 10, 99, 100, 200}) {
            House house = Scenes.start();
            for (int i = 0; i < ticks; i++) {
                house.tick(1);
            }
            house.login(0, 5, false);
            house.tick(30);
            house.validate(house.ticket(0, 0), 0, 0, 0);
            documentIs("login at " + ticks, house, "<ok u=\"\"><d>" + ticks + "</d><n>0</n></ok>");
        }
        House late = Scenes.start();
        for (int i = 0; i < 480; i++) {
            late.tick(200);
        }
        late.validate(late.enter(0, 5, 0), 0, 0, 0);
        documentIs("late", late, "<ok u=\"\"><d>96000</d><n>1</n></ok>");
    }

    private static void rememberedAndFresh() {
        House house = Scenes.start();
        house.login(0, 5, true);
        house.login(0, 5, false);
        house.validate(house.ticket(0, 0), 0, 0, 1);
        documentIs("remembered", house, "<ok u=\"\"><d>0</d><l>1</l><n>0</n><g>1</g></ok>");
        house.validate(house.proxy(1, 0), 0, 2, 0);
        documentIs("remembered, proxy", house,
                "<ok u=\"\"><d>0</d><l>1</l><n>0</n><p>1</p></ok>");
        house.validate(house.ticket(1, 0), 0, 0, 0);
        documentIs("neither", house, "<ok u=\"\"><d>0</d><n>0</n></ok>");
        house.validate(house.enter(0, 5, 0), 0, 1, 3);
        documentIs("fresh", house, "<ok u=\"\"><d>0</d><n>1</n><g>5</g></ok>");
        house.validate(house.proxy(5, 0), 0, 2, 0);
        documentIs("a proxy ticket from a fresh one", house,
                "<ok u=\"\"><d>0</d><n>0</n><p>3</p></ok>");
    }

    private static void granted() {
        House house = ann();
        for (int t = 0; t < 149; t++) {
            House asked = house.again();
            asked.validate(t, 0, 0, 1 + t % 5);
            if (t == 0 || t == 8 || t == 9 || t == 98 || t == 99 || t == 148) {
                documentIs("granting ticket " + (t + 1), asked,
                        "<ok u=\"Ann\"><d>4</d><n>0</n><g>" + (t + 1) + "</g></ok>");
            }
            house.ticket(0, 0);
        }
    }

    private static void chain() {
        House house = ann();
        house.validate(0, 0, 0, 5);
        house.validate(house.proxy(1, 0), 0, 2, 1);
        documentIs("one callback", house,
                "<ok u=\"Ann\"><d>4</d><n>0</n><g>3</g><p>5</p></ok>");
        house.validate(house.proxy(3, 0), 0, 2, 4);
        documentIs("two callbacks", house,
                "<ok u=\"Ann\"><d>4</d><n>0</n><g>5</g><p>1</p><p>5</p></ok>");
        house.validate(house.proxy(5, 1), 1, 2, 4);
        documentIs("three callbacks, none granted", house,
                "<ok u=\"Ann\"><d>4</d><n>0</n><p>4</p><p>1</p><p>5</p></ok>");
        house.validate(house.proxy(3, 0), 0, 2, 1);
        documentIs("a branch, one callback twice", house,
                "<ok u=\"Ann\"><d>4</d><n>0</n><g>8</g><p>1</p><p>5</p></ok>");
        house.validate(house.proxy(8, 0), 0, 2, 0);
        documentIs("the branch", house,
                "<ok u=\"Ann\"><d>4</d><n>0</n><p>1</p><p>1</p><p>5</p></ok>");
    }

    private static void escapes() {
        String[] plain = {"&", "<", ">", "\"", "&&&&&&&&", "<<<<<<<<", ">>>>>>>>",
            "\"\"\"\"\"\"\"\"", "&<>\"'/ ~", "a&amp;b", " ", "&lt;"};
        String[] due = {"&amp;", "&lt;", "&gt;", "&quot;", "&amp;".repeat(8), "&lt;".repeat(8),
            "&gt;".repeat(8), "&quot;".repeat(8), "&amp;&lt;&gt;&quot;'/ ~", "a&amp;amp;b", " ",
            "&amp;lt;"};
        for (int k = 0; k < plain.length; k++) {
            for (int which = 0; which <= 3; which++) {
                House house = Scenes.start();
                house.service(0, 63);
                Scenes.text(house, 0, which, plain[k]);
                house.validate(house.enter(0, 5, 0), 0, 4, 0);
                String name = which == 3 ? due[k] : "";
                String attribute = which == 3 ? ""
                        : "<a" + which + ">" + due[k] + "</a" + which + ">";
                documentIs(plain[k], house, "<ok u=\"" + name + "\">" + attribute
                        + "<d>0</d><n>1</n></ok>");
            }
        }
    }

    private static void longest() {
        House house = Scenes.start();
        for (int which = 0; which < 4; which++) {
            Scenes.text(house, 0, which, "\"".repeat(8));
        }
        house.service(0, 63);
        for (int i = 0; i < 50; i++) {
            house.tick(200);
        }
        house.login(0, 5, true);
        house.ticket(0, 0);
        for (int t = 0; t < 148; t += 2) {
            house.validate(t, 0, 2, 3);
            house.proxy(t + 1, 0);
        }
        CHECKS.same("code", house.validate(148, 0, 6, 1), 0);
        String x = "&quot;".repeat(8);
        String due = "<ok u=\"" + x + "\"><a0>" + x + "</a0><a1>" + x + "</a1><a2>" + x + "</a2>"
                + "<d>10000</d><l>1</l><n>0</n><g>149</g>" + "<p>3</p>".repeat(74) + "</ok>";
        documentIs("the longest", house, due);
        CHECKS.same("document(NONE)", house.document(TicketHouse.NONE), due.length());
        CHECKS.same("its last character", house.document(due.length() - 1), '>');
        CHECKS.none("the one behind", house.document(due.length()));
    }

    private static void read() {
        House house = ann();
        house.validate(-12, 0, 0, 0);
        String due = "<no c=\"1\">-12</no>";
        CHECKS.same("document(NONE)", house.document(TicketHouse.NONE), due.length());
        for (int i = 0; i < due.length(); i++) {
            CHECKS.same("document(" + i + ")", house.document(i), due.charAt(i));
        }
    }

    private static void readOutside() {
        House house = ann();
        house.validate(0, 0, 0, 0);
        int length = "<ok u=\"Ann\"><d>4</d><n>0</n></ok>".length();
        CHECKS.same("document(NONE)", house.document(-1), length);
        CHECKS.same("document(0)", house.document(0), '<');
        CHECKS.same("the last", house.document(length - 1), '>');
        for (int i : Checks.outside(-1, length - 1)) {
            CHECKS.none("document(" + i + ")", house.document(i));
        }
    }

    /** A shorter one leaves nothing of a longer one, and no call but validate() writes one. */
    private static void latest() {
        House house = ann();
        house.validate(0, 0, 0, 0);
        String due = "<ok u=\"Ann\"><d>4</d><n>0</n></ok>";
        Scenes.text(house, 0, 3, "Bob");
        house.ticket(0, 0);
        house.enter(0, 5, 0);
        house.login(0, 6, false);
        house.service(0, 1);
        house.callback(1, false);
        house.logout(0);
        house.tick(50);
        documentIs("the document stays", house, due);
        CHECKS.badArgument("validate(0, 0, 8, 0)", house, h -> h.validate(0, 0, 8, 0));
        house.validate(9, 0, 0, 0);
        documentIs("a shorter one", house, "<no c=\"1\">9</no>");
        CHECKS.none("behind it", house.document("<no c=\"1\">9</no>".length()));
        house.validate(house.enter(0, 5, 0), 0, 0, 0);
        documentIs("the name as it is now", house, "<ok u=\"Bob\"><d>54</d><n>1</n></ok>");
    }
}
