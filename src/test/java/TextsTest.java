/** Promises 2 (letter) and 3 (text), and the texts of users. */
public final class TextsTest {
    private static final Checks CHECKS = new Checks();

    public static void main(String[] args) {
        CHECKS.holds("TEXTS are rows of at most 8 characters", TextsTest::everyLength);
        CHECKS.holds("characters 32 .. 126", TextsTest::everyCharacter);
        CHECKS.holds("USERS have texts, all empty at first", TextsTest::emptyAtFirst);
        CHECKS.holds("2: A character comes to the draft; answers how many it has",
                TextsTest::lettersCount);
        CHECKS.holds("2: IllegalArgumentException: c is not 32 .. 126", TextsTest::wrongLetters);
        CHECKS.holds("2: IllegalStateException: it has 8", TextsTest::fullDraft);
        CHECKS.holds("3: The draft becomes a text of user u (which 0 .. 2 an attribute, 3 the "
                + "name)",
                TextsTest::textsAreKept);
        CHECKS.holds("3: and is empty", TextsTest::draftIsEmpty);
        CHECKS.holds("3: the draft becomes a text, whatever it was", TextsTest::textsAreReplaced);
        CHECKS.holds("3: there is no such user", TextsTest::wrongUsers);
        CHECKS.holds("3: which is not 0 .. 3", TextsTest::wrongTexts);
        CHECKS.end("texts");
    }

    /** Service 5 gets all attributes, so that the document shows every text of the user. */
    private static String textsOf(House house, int u) {
        house.service(5, 1 + 8 + 16 + 32);
        house.password(u, 5);
        house.validate(house.enter(u, 5, 5), 5, 4, 0);
        return Reading.document(house);
    }

    private static String ok(String name, String attributes) {
        return "<ok u=\"" + name + "\">" + attributes + "<d>0</d><n>1</n></ok>";
    }

    private static void everyLength() {
        for (int length = 0; length <= 8; length++) {
            String row = "abcdefgh".substring(0, length);
            House house = new House();
            Scenes.draft(house, row);
            CHECKS.same("text(1, 3)", house.text(1, 3), length);
            Scenes.draft(house, row);
            CHECKS.same("text(1, 1)", house.text(1, 1), length);
            String attribute = length == 0 ? "" : "<a1>" + row + "</a1>";
            CHECKS.same("document", textsOf(house, 1), ok(row, attribute));
        }
    }

    private static void everyCharacter() {
        for (int c = 32; c <= 126; c++) {
            House house = new House();
            CHECKS.same("letter(" + c + ")", house.letter(c), 1);
            house.text(0, 3);
            house.letter(c);
            house.text(0, 2);
            String x = c == '&' ? "&amp;" : c == '<' ? "&lt;" : c == '>' ? "&gt;"
                    : c == '"' ? "&quot;" : String.valueOf((char) c);
            CHECKS.same("document", textsOf(house, 0), ok(x, "<a2>" + x + "</a2>"));
        }
    }

    private static void emptyAtFirst() {
        for (int u = 0; u < 4; u++) {
            CHECKS.same("texts of user " + u, textsOf(new House(), u), ok("", ""));
        }
    }

    private static void lettersCount() {
        House house = new House();
        for (int i = 1; i <= 8; i++) {
            CHECKS.same("letter " + i, house.letter(i % 2 == 0 ? 32 : 126), i);
        }
        house.text(0, 3);
        CHECKS.same("document", textsOf(house, 0), ok("~ ~ ~ ~ ", ""));
    }

    private static void wrongLetters() {
        for (int length : new int[] {0, 1, 7, 8}) {
            House house = new House();
            Scenes.draft(house, "abcdefgh".substring(0, length));
            CHECKS.badOutside("letter(#) with " + length, house, 32, 126, (h, c) -> h.letter(c));
        }
    }

    private static void fullDraft() {
        House house = new House();
        Scenes.draft(house, "ABCDEFG");
        CHECKS.same("the eighth", house.letter(72), 8);
        for (int c : new int[] {32, 72, 126}) {
            CHECKS.badState("letter(" + c + "), the ninth", house, h -> h.letter(c));
        }
        CHECKS.same("text(2, 3)", house.text(2, 3), 8);
        CHECKS.same("the first letter after it", house.letter(73), 1);
        CHECKS.same("document", textsOf(house, 2), ok("ABCDEFGH", ""));
    }

    private static void textsAreKept() {
        House house = new House();
        for (int u = 0; u < 4; u++) {
            for (int which = 0; which < 4; which++) {
                Scenes.draft(house, "u" + u + "w" + which);
                CHECKS.same("text(" + u + ", " + which + ")", house.text(u, which), 4);
            }
        }
        for (int u = 0; u < 4; u++) {
            String p = "u" + u + "w";
            CHECKS.same("texts of user " + u, textsOf(house, u), ok(p + "3",
                    "<a0>" + p + "0</a0><a1>" + p + "1</a1><a2>" + p + "2</a2>"));
        }
    }

    private static void draftIsEmpty() {
        House house = new House();
        Scenes.draft(house, "abc");
        CHECKS.same("text(0, 3)", house.text(0, 3), 3);
        CHECKS.same("house(4)", house.house(4), 0);
        CHECKS.same("letter('x')", house.letter('x'), 1);
        CHECKS.same("the text is not the draft", textsOf(house, 0), ok("abc", ""));
        CHECKS.same("text(0, 0)", house.text(0, 0), 1);
        CHECKS.same("text(0, 3)", house.text(0, 3), 0);
        CHECKS.same("texts", textsOf(house, 0), ok("", "<a0>x</a0>"));
    }

    private static void textsAreReplaced() {
        House house = new House();
        for (String row : new String[] {"ab", "longname", "c", "", "12345678", "", "d"}) {
            for (int which : new int[] {0, 3}) {
                Scenes.draft(house, row);
                CHECKS.same("text(3, " + which + ")", house.text(3, which), row.length());
            }
            String attribute = row.isEmpty() ? "" : "<a0>" + row + "</a0>";
            CHECKS.same("texts", textsOf(house, 3), ok(row, attribute));
        }
    }

    private static void wrongUsers() {
        for (String row : new String[] {"", "abc", "abcdefgh"}) {
            House house = new House();
            Scenes.draft(house, row);
            CHECKS.badOutside("text(#, 0)", house, 0, 3, (h, u) -> h.text(u, 0));
            CHECKS.badOutside("text(#, 3)", house, 0, 3, (h, u) -> h.text(u, 3));
            CHECKS.badOutside("text(#, #)", house, 0, 3, (h, x) -> h.text(x, x));
            CHECKS.same("text(0, 3)", house.again().text(0, 3), row.length());
            CHECKS.same("text(3, 3)", house.again().text(3, 3), row.length());
        }
    }

    private static void wrongTexts() {
        House house = new House();
        Scenes.draft(house, "abc");
        CHECKS.badOutside("text(0, #)", house, 0, 3, (h, which) -> h.text(0, which));
        CHECKS.badOutside("text(3, #)", house, 0, 3, (h, which) -> h.text(3, which));
        CHECKS.same("text(3, 0)", house.again().text(3, 0), 3);
        CHECKS.same("text(3, 3)", house.again().text(3, 3), 3);
    }
}
