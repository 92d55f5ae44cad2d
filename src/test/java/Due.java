/** Counts the answers that are not those that are due, and ends the test accordingly. */
final class Due {
    private static final int MOST_TOLD = 40;

    private String within = "";
    private int asked;
    private int wrong;

    /** What comes now is part of this: told with each answer that is not as due. */
    void begin(String part) {
        within = part + ": ";
    }

    void is(String call, long got, long want) {
        asked++;
        if (got != want) {
            tell(call + " answered " + got + ", due is " + want);
        }
    }

    void holds(String what, boolean so) {
        asked++;
        if (!so) {
            tell("not so: " + what);
        }
    }

    boolean anyWrong() {
        return wrong > 0;
    }

    int asked() {
        return asked;
    }

    void end() {
        System.out.println(asked + " answers, " + wrong + " of them not as due");
        if (wrong > 0 || asked == 0) {
            System.exit(1);
        }
    }

    private void tell(String line) {
        wrong++;
        if (wrong <= MOST_TOLD) {
            System.out.println(within + line);
        }
    }
}
