import java.util.ArrayList;
import java.util.Arrays;
import java.util.List;
import java.util.Random;

/**
 * Runs of 512 random calls, always the same ones, on a house and on a second model of the
 * document that is written with no care for room: every answer and every exception must be alike.
 */
public final class ModelTest {
    private static final int RUNS = 1500;
    private static final int VALIDATE = 9;
    private static final int SWEEP_AT = 470;
    private static final int[] ODD = {-1, -2, 6, 8, 40, 64, 150, 201, Integer.MIN_VALUE,
        Integer.MAX_VALUE};

    private final Random random;
    private final House house = new House();
    private final Model model = new Model();
    /** How many of a hundred arguments may be odd ones, and how far the clock may jump. */
    private final int oddness;
    private final int longestTick;

    private ModelTest(int run) {
        random = new Random(run);
        oddness = run % 3 == 0 ? 6 : 1;
        longestTick = new int[] {3, 12, 40, 200}[run % 4];
    }

    public static void main(String[] args) {
        int wrong = 0;
        for (int run = 0; run < RUNS && wrong < 5; run++) {
            wrong += new ModelTest(run).isWrong(run) ? 1 : 0;
        }
        System.out.println(wrong == 0 ? "model: as due" : "model: " + wrong + " runs not as due");
        if (wrong != 0) {
            System.exit(1);
        }
    }

    private boolean isWrong(int run) {
        List<String> told = new ArrayList<>();
        prepare();
        while (!house.isSpent()) {
            int call = pickCall();
            int[] a = arguments(call);
            String due = answer(model, call, a);
            String got = answer(house, call, a);
            // All that can be seen once, late in the run; else the document after each asking.
            if (house.callCount() == SWEEP_AT) {
                due += Reading.visible(model);
                got += Reading.visible(house);
            } else if (call == VALIDATE && !house.isSpent()) {
                due += Reading.document(model);
                got += Reading.document(house);
            }
            told.add(call + Arrays.toString(a) + " " + got);
            if (!got.equals(due)) {
                System.out.println("run " + run + ": " + told + " due is " + due);
                return true;
            }
        }
        return false;
    }

    /** Without some passwords and enabled services most calls would be refused. */
    private void prepare() {
        for (int u = 0; u < 3; u++) {
            house.password(u, u);
            model.password(u, u);
        }
        for (int s = 0; s < 5; s++) {
            int flags = random.nextInt(64) | 1;
            house.service(s, flags);
            model.service(s, flags);
        }
    }

    private int pickCall() {
        int[] often = {0, 0, 0, 1, 2, 3, 4, 5, 5, 6, 7, 7, 7, 8, 8, 8, 9, 9, 9, 9, 9, 10, 11, 11,
            12, 12, 13, 13, 13, 14, 14, 14, 14, 15, 16, 16};
        int call = often[random.nextInt(often.length)];
        boolean rare = call == 10 || call == 3 || call == 2;
        return rare && random.nextInt(3) != 0 ? 14 : call;
    }

    private int pick(int bound) {
        if (random.nextInt(100) < oddness) {
            return ODD[random.nextInt(ODD.length)];
        }
        return random.nextInt(Math.max(1, bound));
    }

    /** A late one of those that there are, since early ones are mostly dead. */
    private int pickLate(int count) {
        return random.nextInt(4) == 0 ? pick(count) : count - 1 - pick(Math.min(count, 6));
    }

    private int[] arguments(int call) {
        int tickets = model.tickets.size();
        int sessions = model.sessions.size();
        switch (call) {
            case 0: return new int[] {random.nextInt(3) == 0 ? "&<>\"".charAt(random.nextInt(4))
                    : 31 + pick(97)};
            case 1: return new int[] {pick(4), pick(4)};
            case 2: return new int[] {pick(4), pick(4)};
            case 3: return new int[] {pick(6), random.nextInt(5) == 0 ? pick(64) : pick(64) | 1};
            case 4: return new int[] {1 + pick(5), random.nextInt(3) == 0 ? 0 : 1};
            case 5: return withWord(random.nextInt(2));
            case 6: return withWord(pick(6));
            case 7: return new int[] {pickLate(sessions), pick(5)};
            case 8: return new int[] {grantingOr(pickLate(tickets)), pick(5)};
            case VALIDATE: return asking(pickLate(tickets));
            case 10: return new int[] {pickLate(sessions)};
            case 11: return new int[] {1 + pick(longestTick)};
            case 12: return new int[] {pick(80) - 1};
            case 13: return new int[] {pick(sessions), pick(5)};
            case 14: return new int[] {pick(tickets), pick(8)};
            case 15: return new int[] {pick(model.messages.size())};
            default: return new int[] {pick(9)};
        }
    }

    private int[] withWord(int last) {
        int u = pick(4);
        return new int[] {u, random.nextInt(3) == 0 ? pick(4) : u, last};
    }

    private int grantingOr(int t) {
        for (int g = model.tickets.size() - 1; g >= 0; g--) {
            if (model.tickets.get(g).kind == 2 && random.nextInt(3) != 0) {
                return g;
            }
        }
        return t;
    }

    private int[] asking(int t) {
        boolean there = t >= 0 && t < model.tickets.size();
        int s = there && random.nextInt(8) != 0 ? model.tickets.get(t).target : pick(6);
        return new int[] {t, s, pick(8), random.nextInt(3) == 0 ? 0 : pick(6)};
    }

    private static String answer(Face face, int call, int[] a) {
        try {
            return String.valueOf(ask(face, call, a));
        } catch (RuntimeException e) {
            return e.getClass().getName();
        }
    }

    private static int ask(Face face, int call, int[] a) {
        switch (call) {
            case 0: return face.letter(a[0]);
            case 1: return face.text(a[0], a[1]);
            case 2: return face.password(a[0], a[1]) ? 1 : 0;
            case 3: return face.service(a[0], a[1]);
            case 4: return face.callback(a[0], a[1] == 1) ? 1 : 0;
            case 5: return face.login(a[0], a[1], a[2] == 1);
            case 6: return face.enter(a[0], a[1], a[2]);
            case 7: return face.ticket(a[0], a[1]);
            case 8: return face.proxy(a[0], a[1]);
            case VALIDATE: return face.validate(a[0], a[1], a[2], a[3]);
            case 10: return face.logout(a[0]);
            case 11: return face.tick(a[0]);
            case 12: return face.document(a[0]);
            case 13: return face.session(a[0], a[1]);
            case 14: return face.about(a[0], a[1]);
            case 15: return face.message(a[0]);
            default: return face.house(a[0]);
        }
    }
}
