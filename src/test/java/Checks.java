/** Counts and prints the answers that are not the ones that are due. */
final class Checks {
    private int checked = 0;
    private int wrong = 0;

    interface Action {
        void act();
    }

    void due(String what, long got, long want) {
        checked++;
        if (got != want) {
            wrong++;
            System.out.println(what + " answered " + got + ", due is " + want);
        }
    }

    void due(String what, boolean got, boolean want) {
        due(what, got ? 1 : 0, want ? 1 : 0);
    }

    void dueText(String what, String got, String want) {
        checked++;
        if (!got.equals(want)) {
            wrong++;
            System.out.println(what + " answered " + got + ", due is " + want);
        }
    }

    /** The exception has to be exactly of the class that is due, not of one below it. */
    void dueThrow(String what, Class<? extends RuntimeException> want, Action action) {
        String got = "nothing";
        try {
            action.act();
        } catch (RuntimeException thrown) {
            got = thrown.getClass().getSimpleName();
        }
        dueText(what + " throws", got, want.getSimpleName());
    }

    boolean hasFailed() {
        return wrong != 0;
    }

    /** Ends the machine with exit code 1 if an answer was wrong. */
    void finish(String name) {
        System.out.println(name + ": " + checked + " checks, " + wrong + " wrong");
        if (wrong != 0) {
            System.exit(1);
        }
    }
}
