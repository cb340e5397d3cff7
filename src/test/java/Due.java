/**
 * Compares answers with those that are due, and tells the wrong ones by what they are about. What the example of
 * README.md is made to call is public: ReadmeTest loads it by a loader of its own.
 */
public final class Due {
    static final String RANGE = "IllegalArgumentException";
    static final String NO_GOODS = "IndexOutOfBoundsException";
    static final String STATE = "IllegalStateException";

    private final String about;
    private int compared = 0;
    private int wrong = 0;

    Due(String about) {
        this.about = about;
    }

    public void same(String call, long answer, long due) {
        same(call, Long.toString(answer), Long.toString(due));
    }

    public void same(String call, boolean answer, boolean due) {
        same(call, Boolean.toString(answer), Boolean.toString(due));
    }

    void same(String call, String answer, String due) {
        compared++;
        if (!answer.equals(due)) {
            wrong++;
            System.out.println(about + " | " + call + " answered " + answer + ", due is " + due);
        }
    }

    /** The exception has to be of the named class itself, not of one below it. */
    public void fails(String call, String due, Runnable made) {
        same(call, thrownBy(made), due);
    }

    void passes(String call, Runnable made) {
        fails(call, "nothing", made);
    }

    private static String thrownBy(Runnable made) {
        try {
            made.run();
            return "nothing";
        } catch (RuntimeException e) {
            return e.getClass().getSimpleName();
        }
    }

    int compared() {
        return compared;
    }

    int wrong() {
        return wrong;
    }

    void end() {
        System.out.println(about + ": " + compared + " compared, " + wrong + " wrong");
        if (wrong != 0 || compared == 0) {
            System.exit(1);
        }
    }
}
