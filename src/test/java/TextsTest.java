/** Promises 2 (letter) and 3 (text). */
public final class TextsTest {
    private static final Checks CHECKS = new Checks();

    public static void main(String[] args) {
        lettersCount();
        wrongLetters();
        fullDraft();
        textsAreKept();
        aTextIsReplaced();
        emptyText();
        wrongTexts();
        CHECKS.end("texts");
    }

    private static void lettersCount() {
        TicketHouse house = new TicketHouse();
        for (int i = 1; i <= 8; i++) {
            CHECKS.same("letter " + i, house.letter(i % 2 == 0 ? 32 : 126), i);
            CHECKS.same("house(4) after it", house.house(4), i);
        }
    }

    private static void wrongLetters() {
        TicketHouse house = new TicketHouse();
        house.letter(65);
        for (int c : new int[] {31, 127, 0, -1, 256 + 65, Integer.MIN_VALUE, Integer.MAX_VALUE}) {
            CHECKS.badArgument("letter(" + c + ")", house, () -> house.letter(c));
        }
    }

    private static void fullDraft() {
        TicketHouse house = new TicketHouse();
        Checks.draft(house, "ABCDEFGH");
        CHECKS.badState("letter(73), the ninth", house, () -> house.letter(73));
        CHECKS.badArgument("letter(31), the ninth", house, () -> house.letter(31));
        CHECKS.same("text(2, 3)", house.text(2, 3), 8);
        CHECKS.same("the first letter after it", house.letter(73), 1);
    }

    private static void textsAreKept() {
        TicketHouse house = new TicketHouse();
        house.service(0, 1 + 8 + 16 + 32);
        for (int u = 0; u < 4; u++) {
            house.password(u, u);
            for (int which = 0; which < 4; which++) {
                Checks.draft(house, "u" + u + "w" + which);
                CHECKS.same("text(" + u + ", " + which + ")", house.text(u, which), 4);
                CHECKS.same("the draft after it", house.house(4), 0);
            }
        }
        for (int u = 0; u < 4; u++) {
            CHECKS.same("validate", house.validate(house.enter(u, u, 0), 0, 4, 0), 0);
            String p = "u" + u + "w";
            CHECKS.same("document of user " + u, Checks.document(house),
                    "<ok u=\"" + p + "3\"><a0>" + p + "0</a0><a1>" + p + "1</a1><a2>" + p
                    + "2</a2><d>0</d><n>1</n></ok>");
        }
    }

    private static void aTextIsReplaced() {
        TicketHouse house = new TicketHouse();
        house.service(0, 1);
        house.password(0, 1);
        Checks.text(house, 0, 3, "longname");
        Checks.text(house, 0, 3, "ab");
        house.letter('z');
        house.validate(house.enter(0, 1, 0), 0, 0, 0);
        CHECKS.same("a shorter name", Checks.document(house),
                "<ok u=\"ab\"><d>0</d><n>1</n></ok>");
    }

    private static void emptyText() {
        TicketHouse house = new TicketHouse();
        house.service(0, 1 + 8);
        house.password(0, 1);
        Checks.text(house, 0, 3, "ab");
        Checks.text(house, 0, 0, "ab");
        CHECKS.same("text(0, 3) of an empty draft", house.text(0, 3), 0);
        CHECKS.same("text(0, 0) of an empty draft", house.text(0, 0), 0);
        house.validate(house.enter(0, 1, 0), 0, 4, 0);
        CHECKS.same("no name", Checks.document(house), "<ok u=\"\"><d>0</d><n>1</n></ok>");
    }

    private static void wrongTexts() {
        TicketHouse house = new TicketHouse();
        Checks.draft(house, "abc");
        for (int bad : new int[] {4, -1, Integer.MIN_VALUE, Integer.MAX_VALUE}) {
            CHECKS.badArgument("text(" + bad + ", 0)", house, () -> house.text(bad, 0));
            CHECKS.badArgument("text(0, " + bad + ")", house, () -> house.text(0, bad));
        }
        CHECKS.same("text(3, 0)", house.text(3, 0), 3);
    }
}
