import java.util.Objects;

/** What is due, and how often it was not so. */
final class Due {
    private final String what;
    private int wrong = 0;
    private int checks = 0;

    Due(String what) {
        this.what = what;
    }

    void same(String call, long got, long want) {
        checks++;
        if (got != want) {
            wrong++;
            System.out.println(what + ": " + call + " answered " + got + ", due is " + want);
        }
    }

    void same(String call, Object got, Object want) {
        checks++;
        if (!Objects.equals(got, want)) {
            wrong++;
            System.out.println(what + ": " + call + " is " + got + ", due is " + want);
        }
    }

    void yes(String claim, boolean holds) {
        checks++;
        if (!holds) {
            wrong++;
            System.out.println(what + ": it is not so that " + claim);
        }
    }

    boolean looked() {
        return checks != 0;
    }

    boolean failed() {
        return wrong != 0;
    }

    /** Ends the program, with exit code 1 if something was not as due. */
    void end() {
        System.out.println(what + ": " + checks + " checks, " + wrong + " wrong");
        if (wrong != 0) {
            System.exit(1);
        }
    }
}
