import java.util.TreeSet;
import java.util.function.Consumer;
import java.util.function.ObjIntConsumer;

/** Counts and prints the answers that are not as due, under the sentence that they break. */
final class Checks {
    private static final Class<IllegalArgumentException> ARGUMENT = IllegalArgumentException.class;
    private static final Class<IllegalStateException> STATE = IllegalStateException.class;

    private int wrong;
    private String sentence = "";
    // What a house was like is kept while many calls are refused on it.
    private House latest;
    private int latestCount;
    private String latestAll;

    /** The test of one sentence of the document. */
    void holds(String sentence, Runnable test) {
        this.sentence = sentence;
        try {
            test.run();
        } catch (RuntimeException | AssertionError e) {
            tell("the test was ended by " + e + " at " + e.getStackTrace()[0]);
        }
    }

    private void tell(String what) {
        if (!sentence.isEmpty()) {
            System.out.println("BROKEN: " + sentence);
            sentence = "";
        }
        wrong++;
        System.out.println("  " + what);
    }

    void same(String what, long got, long due) {
        if (got != due) {
            tell(what + " answered " + got + ", due is " + due);
        }
    }

    void same(String what, boolean got, boolean due) {
        same(what, got ? 1 : 0, due ? 1 : 0);
    }

    void same(String what, String got, String due) {
        if (!got.equals(due)) {
            tell(what + " answered\n    " + got + ", due is\n    " + due);
        }
    }

    void none(String what, long got) {
        same(what, got, TicketHouse.NONE);
    }

    void badArgument(String what, House house, Consumer<House> call) {
        refused(what, house, ARGUMENT, call);
    }

    void badState(String what, House house, Consumer<House> call) {
        refused(what, house, STATE, call);
    }

    /** IllegalArgumentException for all that is not least .. greatest; # stands for it. */
    void badOutside(String what, House house, int least, int greatest,
            ObjIntConsumer<House> call) {
        for (int x : outside(least, greatest)) {
            badArgument(what.replace("#", String.valueOf(x)), house, h -> call.accept(h, x));
        }
    }

    /** The call must throw exactly this, and leave everything as it was. */
    private void refused(String what, House house, Class<?> due, Consumer<House> call) {
        House tried = house.again();
        String thrown = "nothing";
        try {
            call.accept(tried);
        } catch (RuntimeException e) {
            thrown = e.getClass().getName();
        }
        same(what + " throws", thrown, due.getName());
        same("everything after " + what, Reading.all(tried), allOf(house));
    }

    private String allOf(House house) {
        if (house != latest || house.callCount() != latestCount) {
            latest = house;
            latestCount = house.callCount();
            latestAll = Reading.all(house);
        }
        return latestAll;
    }

    /**
     * Numbers that are not least .. greatest: the next ones on both sides, some that are alike to
     * one inside in their low bits or when they wrap around, and the ends of int.
     */
    static int[] outside(int least, int greatest) {
        TreeSet<Integer> found = new TreeSet<>();
        for (int step : new int[] {1, 2, 8, 64, 256, 1 << 16, 1 << 24, 1 << 31}) {
            for (int x : new int[] {least - step, least + step, greatest - step, greatest + step}) {
                found.add(x);
            }
        }
        found.add(-1);
        found.add(Integer.MIN_VALUE);
        found.add(Integer.MAX_VALUE);
        found.removeIf(x -> x >= least && x <= greatest);
        return found.stream().mapToInt(x -> x).toArray();
    }

    void end(String test) {
        System.out.println(wrong == 0 ? test + ": as due" : test + ": " + wrong + " not as due");
        if (wrong != 0) {
            System.exit(1);
        }
    }
}
