/** Counts the answers of one test that are not as due, and prints them. */
final class Check {
    static final Class<IllegalArgumentException> ARGUMENT = IllegalArgumentException.class;
    static final Class<IllegalStateException> STATE = IllegalStateException.class;
    static final Class<IndexOutOfBoundsException> INDEX = IndexOutOfBoundsException.class;
    static final Class<ArithmeticException> ARITHMETIC = ArithmeticException.class;

    interface Call {
        long answer();
    }

    private final String name;
    private String about = "";
    private int checked = 0;
    private int wrong = 0;

    Check(String name) {
        this.name = name;
    }

    /** What the checks from here on are about; a fault tells it. */
    void about(String text) {
        about = text;
    }

    int checked() {
        return checked;
    }

    void same(String what, long got, long due) {
        checked++;
        if (got != due) {
            fault(what + " answered " + got + ", due is " + due);
        }
    }

    void same(String what, String got, String due) {
        checked++;
        if (!got.equals(due)) {
            fault(what + " answered '" + got + "', due is '" + due + "'");
        }
    }

    void yes(String what, boolean got) {
        same(what, got ? 1 : 0, 1);
    }

    void no(String what, boolean got) {
        same(what, got ? 1 : 0, 0);
    }

    /** The call must throw exactly this class. */
    void raises(Class<? extends RuntimeException> due, String what, Call call) {
        same(what, outcome(call), "throws." + due.getSimpleName());
    }

    static String outcome(Call call) {
        try {
            return Long.toString(call.answer());
        } catch (RuntimeException e) {
            return "throws." + e.getClass().getSimpleName();
        }
    }

    void fault(String text) {
        wrong++;
        System.out.println(name + ": " + (about.isEmpty() ? "" : about + ": ") + text);
    }

    /** Ends the test: exit code 1 if anything was wrong, or nothing was checked. */
    void end() {
        System.out.println(name + ": " + checked + " checks, " + wrong + " wrong");
        if (wrong != 0 || checked == 0) {
            System.exit(1);
        }
    }
}
