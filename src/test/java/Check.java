/** Counts what is not as due, prints it, and ends a test with exit code 1 if there was any. */
final class Check {
    interface Call {
        void run();
    }

    static final Class<IllegalArgumentException> ARGUMENT = IllegalArgumentException.class;
    static final Class<IllegalStateException> STATE = IllegalStateException.class;
    static final Class<java.util.NoSuchElementException> MISSING = java.util.NoSuchElementException.class;

    private int asked;
    private int wrong;
    private String sentence = "";

    /**
     * What is asked from here on stands for these words of that section of the document;
     * SentencesTest reads these calls to see that no sentence is left without a test.
     */
    void says(String section, String words) {
        sentence = section + ", '" + words + "': ";
    }

    void same(String what, long got, long want) {
        asked++;
        if (got != want) {
            fail(what + " answered " + got + ", due is " + want);
        }
    }

    void that(String what, boolean holds) {
        asked++;
        if (!holds) {
            fail(what);
        }
    }

    /** The exception must be of the very class, for NoSuchElementException has heirs of its own. */
    void refuses(String what, Class<? extends RuntimeException> want, Call call) {
        asked++;
        String got = "nothing";
        try {
            call.run();
        } catch (RuntimeException e) {
            if (e.getClass() == want) {
                return;
            }
            got = e.toString();
        }
        fail(what + " threw " + got + ", due is " + want.getSimpleName());
    }

    boolean failed() {
        return wrong > 0;
    }

    void end() {
        System.out.println(wrong == 0 ? asked + " answers are as due" : wrong + " of " + asked + " answers are not as due");
        if (wrong > 0) {
            System.exit(1);
        }
    }

    private void fail(String text) {
        wrong++;
        if (wrong <= 20) {
            System.out.println("wrong: " + sentence + text);
        }
    }
}
