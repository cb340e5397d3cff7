import java.util.function.Consumer;
import java.util.function.Supplier;

/** Compares answers with those that are due, and counts the wrong ones. */
final class Due {
    static final String RANGE = "IllegalArgumentException";
    static final String NO_GOODS = "IndexOutOfBoundsException";
    static final String STATE = "IllegalStateException";

    interface Call {
        void run();
    }

    private int compared = 0;
    private int wrong = 0;

    void same(String call, long answer, long due) {
        compared++;
        if (answer != due) {
            wrong++;
            System.out.println(call + " answered " + answer + ", due is " + due);
        }
    }

    void same(String call, boolean answer, boolean due) {
        same(call, answer ? 1 : 0, due ? 1 : 0);
    }

    void same(String call, String answer, String due) {
        compared++;
        if (!answer.equals(due)) {
            wrong++;
            System.out.println(call + " answered " + answer + ", due is " + due);
        }
    }

    /** The exception has to be of the named class itself, not of one below it. */
    void fails(String call, String due, Call made) {
        same(call, thrownBy(made), due);
    }

    /** A call that throws must leave the ship as it was; a new ship each time keeps it under 512 calls. */
    void failsAndKeeps(Supplier<DangerousGoods> newShip, String call, String due, Consumer<DangerousGoods> made) {
        DangerousGoods ship = newShip.get();
        String before = Snapshot.of(ship);
        fails(call, due, () -> made.accept(ship));
        same(call + " then the state", Snapshot.of(ship), before);
    }

    private static String thrownBy(Call made) {
        try {
            made.run();
            return "nothing";
        } catch (RuntimeException e) {
            return e.getClass().getSimpleName();
        }
    }

    void end(String test) {
        System.out.println(test + ": " + compared + " compared, " + wrong + " wrong");
        if (wrong != 0 || compared == 0) {
            System.exit(1);
        }
    }
}
