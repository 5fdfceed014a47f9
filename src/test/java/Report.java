/** Counts and prints the answers of a test that are not as due. */
final class Report {
    private static final int MOST_PRINTED = 40;

    private final String name;
    private int asked;
    private int wrong;

    Report(String name) {
        this.name = name;
    }

    void due(String call, Object got, Object want) {
        asked++;
        if (!want.equals(got)) {
            wrong++;
            if (wrong <= MOST_PRINTED) {
                System.out.println(name + ": " + call + " answered " + got + ", due is " + want);
            }
        }
    }

    /** Asks a call that is to throw; the exception's very class is due. */
    void dueThrow(String call, Class<? extends RuntimeException> want, Runnable ask) {
        Object got = "nothing thrown";
        try {
            ask.run();
        } catch (RuntimeException e) {
            got = e.getClass();
        }
        due(call, got, want);
    }

    int wrong() {
        return wrong;
    }

    /** Ends the program: with exit code 1 if an answer was wrong, or if nothing was asked. */
    void close() {
        System.out.println(name + ": " + asked + " answers looked at, " + wrong + " wrong");
        System.exit(wrong == 0 && asked > 0 ? 0 : 1);
    }
}
