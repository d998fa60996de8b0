import java.util.ArrayList;
import java.util.Arrays;
import java.util.List;
import java.util.Random;

/**
 * Runs of up to 512 random calls, always the same ones, on a house and on a second model of the
 * document that is written with no care for room: every answer and every exception must be alike.
 */
public final class ModelTest {
    private static final int RUNS = 1500;
    private static final int CALLS = 512;
    private static final int[] ODD = {-1, -2, 6, 8, 40, 64, 150, 201, Integer.MIN_VALUE,
        Integer.MAX_VALUE};

    private final Random random;
    private final TicketHouse house = new TicketHouse();
    private final Model model = new Model();
    /** How many of a hundred arguments may be odd ones, and how far the clock may jump. */
    private final int oddness;
    private final int longestTick;

    private ModelTest(int run) {
        random = new Random(run);
        oddness = run % 3 == 0 ? 6 : 1;
        longestTick = new int[] {3, 12, 40, 200}[run % 4];
    }

    public static void main(String[] args) {
        int wrong = 0;
        for (int run = 0; run < RUNS && wrong < 5; run++) {
            wrong += new ModelTest(run).isWrong(run) ? 1 : 0;
        }
        System.out.println(wrong == 0 ? "model: as due" : "model: " + wrong + " runs not as due");
        if (wrong != 0) {
            System.exit(1);
        }
    }

    private boolean isWrong(int run) {
        List<String> told = new ArrayList<>();
        prepare();
        for (int i = 0; i < CALLS; i++) {
            int call = pickCall();
            int[] a = arguments(call);
            String due = answer(call, a, true);
            String got = answer(call, a, false);
            told.add(call + Arrays.toString(a) + " " + got);
            if (!got.equals(due) || !Checks.document(house).equals(model.document)) {
                System.out.println("run " + run + ": " + told + " due is " + due + ", document "
                        + Checks.document(house) + " due is " + model.document);
                return true;
            }
        }
        return false;
    }

    /** Without some passwords and enabled services most calls would be refused. */
    private void prepare() {
        for (int u = 0; u < 3; u++) {
            house.password(u, u);
            model.password(u, u);
        }
        for (int s = 0; s < 5; s++) {
            int flags = random.nextInt(64) | 1;
            house.service(s, flags);
            model.service(s, flags);
        }
    }

    private int pickCall() {
        int[] often = {0, 0, 0, 1, 2, 3, 4, 5, 5, 6, 7, 7, 7, 8, 8, 8, 9, 9, 9, 9, 9, 10, 11, 11,
            12, 12, 13, 13, 13, 14, 14, 14, 14, 15, 16, 16};
        int call = often[random.nextInt(often.length)];
        boolean rare = call == 10 || call == 3 || call == 2;
        return rare && random.nextInt(3) != 0 ? 14 : call;
    }

    private int pick(int bound) {
        if (random.nextInt(100) < oddness) {
            return ODD[random.nextInt(ODD.length)];
        }
        return random.nextInt(Math.max(1, bound));
    }

    /** A late one of those that there are, since early ones are mostly dead. */
    private int pickLate(int count) {
        return random.nextInt(4) == 0 ? pick(count) : count - 1 - pick(Math.min(count, 6));
    }

    private int[] arguments(int call) {
        int tickets = model.tickets.size();
        int sessions = model.sessions.size();
        switch (call) {
            case 0: return new int[] {random.nextInt(3) == 0 ? "&<>\"".charAt(random.nextInt(4))
                    : 31 + pick(97)};
            case 1: return new int[] {pick(4), pick(4)};
            case 2: return new int[] {pick(4), pick(4)};
            case 3: return new int[] {pick(6), random.nextInt(5) == 0 ? pick(64) : pick(64) | 1};
            case 4: return new int[] {1 + pick(5), random.nextInt(3) == 0 ? 0 : 1};
            case 5: return withWord(random.nextInt(2));
            case 6: return withWord(pick(6));
            case 7: return new int[] {pickLate(sessions), pick(5)};
            case 8: return new int[] {grantingOr(pickLate(tickets)), pick(5)};
            case 9: return asking(pickLate(tickets));
            case 10: return new int[] {pickLate(sessions)};
            case 11: return new int[] {1 + pick(longestTick)};
            case 12: return new int[] {pick(80) - 1};
            case 13: return new int[] {pick(sessions), pick(5)};
            case 14: return new int[] {pick(tickets), pick(8)};
            case 15: return new int[] {pick(model.messages.size())};
            default: return new int[] {pick(9)};
        }
    }

    private int[] withWord(int last) {
        int u = pick(4);
        return new int[] {u, random.nextInt(3) == 0 ? pick(4) : u, last};
    }

    private int grantingOr(int t) {
        for (int g = model.tickets.size() - 1; g >= 0; g--) {
            if (model.tickets.get(g).kind == 2 && random.nextInt(3) != 0) {
                return g;
            }
        }
        return t;
    }

    private int[] asking(int t) {
        boolean there = t >= 0 && t < model.tickets.size();
        int s = there && random.nextInt(8) != 0 ? model.tickets.get(t).target : pick(6);
        return new int[] {t, s, pick(8), random.nextInt(3) == 0 ? 0 : pick(6)};
    }

    private String answer(int call, int[] a, boolean ofModel) {
        try {
            return String.valueOf(ofModel ? ofModel(call, a) : ofHouse(call, a));
        } catch (RuntimeException e) {
            return e.getClass().getName();
        }
    }

    private int ofHouse(int call, int[] a) {
        switch (call) {
            case 0: return house.letter(a[0]);
            case 1: return house.text(a[0], a[1]);
            case 2: return house.password(a[0], a[1]) ? 1 : 0;
            case 3: return house.service(a[0], a[1]);
            case 4: return house.callback(a[0], a[1] == 1) ? 1 : 0;
            case 5: return house.login(a[0], a[1], a[2] == 1);
            case 6: return house.enter(a[0], a[1], a[2]);
            case 7: return house.ticket(a[0], a[1]);
            case 8: return house.proxy(a[0], a[1]);
            case 9: return house.validate(a[0], a[1], a[2], a[3]);
            case 10: return house.logout(a[0]);
            case 11: return house.tick(a[0]);
            case 12: return house.document(a[0]);
            case 13: return house.session(a[0], a[1]);
            case 14: return house.about(a[0], a[1]);
            case 15: return house.message(a[0]);
            default: return house.house(a[0]);
        }
    }

    private int ofModel(int call, int[] a) {
        switch (call) {
            case 0: return model.letter(a[0]);
            case 1: return model.text(a[0], a[1]);
            case 2: return model.password(a[0], a[1]);
            case 3: return model.service(a[0], a[1]);
            case 4: return model.callback(a[0], a[1] == 1);
            case 5: return model.login(a[0], a[1], a[2] == 1);
            case 6: return model.enter(a[0], a[1], a[2]);
            case 7: return model.ticket(a[0], a[1]);
            case 8: return model.proxy(a[0], a[1]);
            case 9: return model.validate(a[0], a[1], a[2], a[3]);
            case 10: return model.logout(a[0]);
            case 11: return model.tick(a[0]);
            case 12: return model.document(a[0]);
            case 13: return model.session(a[0], a[1]);
            case 14: return model.about(a[0], a[1]);
            case 15: return a[0] >= 0 && a[0] < model.messages.size()
                    ? model.messages.get(a[0]) : -1;
            default: return model.house(a[0]);
        }
    }
}
