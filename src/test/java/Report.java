/** Counts and prints the answers of a test that are not as due. */
final class Report {
    private static final int MOST_PRINTED = 40;

    private final String name;
    private String sentence = "";
    private int sentences;
    private int askedBefore;
    private int asked;
    private int wrong;

    Report(String name) {
        this.name = name;
    }

    /** Begins the test of one sentence of the document; a sentence of which nothing is asked is wrong. */
    void sentence(String words) {
        endSentence();
        sentence = words;
        sentences++;
        askedBefore = asked;
    }

    private void endSentence() {
        if (sentences > 0 && asked == askedBefore) {
            due("the sentence is looked at", false, true);
        }
    }

    void due(String call, Object got, Object want) {
        asked++;
        if (!want.equals(got)) {
            wrong++;
            if (wrong <= MOST_PRINTED) {
                String of = sentence.isEmpty() ? "" : "[" + sentence + "] ";
                System.out.println(name + ": " + of + call + " answered " + got + ", due is " + want);
            }
        }
    }

    /** Asks a call that is to throw; the exception's very class is due. */
    void dueThrow(String call, Class<? extends RuntimeException> want, Runnable ask) {
        Object got = "nothing thrown";
        try {
            ask.run();
        } catch (RuntimeException e) {
            got = e.getClass();
        }
        due(call, got, want);
    }

    int wrong() {
        return wrong;
    }

    /** Ends the program: with exit code 1 if an answer was wrong, or if nothing was asked. */
    void close() {
        endSentence();
        String of = sentences == 0 ? "" : " of " + sentences + " sentences";
        System.out.println(name + ": " + asked + " answers" + of + " looked at, " + wrong + " wrong");
        System.exit(wrong == 0 && asked > 0 ? 0 : 1);
    }
}
