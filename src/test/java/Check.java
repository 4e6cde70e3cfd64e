/** Compares answers with those that are due and counts the wrong ones. */
final class Check {
    /** A call of the program. */
    interface Call {
        Object answer();
    }

    /** A call that answers nothing. */
    interface Deed {
        void happen();
    }

    private final String about;
    private String sentence = "";
    private int calls = 0;
    private int wrong = 0;

    Check(String about) {
        this.about = about;
    }

    /** The sentence of the document that the reports name from now on. */
    void begin(String nextSentence) {
        sentence = nextSentence + ", ";
    }

    void equal(String text, Object want, Object got) {
        calls++;
        if (!want.equals(got)) {
            report(text, got, want);
        }
    }

    void due(String text, Object want, Call call) {
        Object got;
        try {
            got = call.answer();
        } catch (RuntimeException e) {
            got = "throws." + e.getClass().getSimpleName();
        }
        equal(text, want, got);
    }

    void refused(String text, Class<? extends RuntimeException> want, Call call) {
        due(text, "throws." + want.getSimpleName(), call);
    }

    void done(String text, Deed deed) {
        due(text, "done", () -> afterwards(deed));
    }

    void deedRefused(String text, Class<? extends RuntimeException> want, Deed deed) {
        refused(text, want, () -> afterwards(deed));
    }

    private static String afterwards(Deed deed) {
        deed.happen();
        return "done";
    }

    private void report(String text, Object got, Object want) {
        wrong++;
        System.out.println(about + ": " + sentence + text + " answered " + got + ", due is " + want);
    }

    /** Ends the program with exit code 1 if an answer was wrong. */
    void end() {
        System.out.println(about + ": " + calls + " calls, " + wrong + " wrong");
        if (wrong != 0) {
            System.exit(1);
        }
    }
}
