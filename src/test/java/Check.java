/** Compares answers with those that are due, and ends the test with 1 if one was wrong. */
final class Check {
    /** A call that may throw. */
    interface Call {
        void make();
    }

    private final String test;
    private String sentence = "";
    private int wrong = 0;

    Check(String test) {
        this.test = test;
    }

    /** The sentence of the document that the checks behind this are about. */
    void says(String nowSentence) {
        sentence = " (" + nowSentence + ")";
    }

    void due(String call, long got, long want) {
        if (got != want) {
            fail(call + " answered " + got + ", due is " + want);
        }
    }

    void due(String call, double got, double want) {
        if (got != want) {
            fail(call + " answered " + got + ", due is " + want);
        }
    }

    void due(String call, String got, String want) {
        if (!got.equals(want)) {
            fail(call + " answered " + got + ", due is " + want);
        }
    }

    /** Runs the program: its TRAP, and what it PRINTS; and by its CODE, as that is told. */
    void run(Build b, String what, int trap, String printed) {
        due(what + ": run()", b.x.run(), trap);
        due(what + ": printed", b.printed(), printed);
        ToldCode.compare(this, b.x, what);
    }

    void bounds(String call, Call made) {
        dueThrow(call, made, IndexOutOfBoundsException.class);
    }

    void argument(String call, Call made) {
        dueThrow(call, made, IllegalArgumentException.class);
    }

    void state(String call, Call made) {
        dueThrow(call, made, IllegalStateException.class);
    }

    private void dueThrow(String call, Call made, Class<? extends RuntimeException> want) {
        try {
            made.make();
        } catch (RuntimeException e) {
            if (e.getClass() != want) {
                fail(call + " threw " + e + ", due is " + want.getSimpleName());
            }
            return;
        }
        fail(call + " threw nothing, due is " + want.getSimpleName());
    }

    void fail(String what) {
        wrong++;
        if (wrong <= 50) {
            System.out.println(test + sentence + ": " + what);
        }
    }

    void end() {
        if (wrong > 0) {
            System.out.println(test + ": " + wrong + " wrong");
            System.exit(1);
        }
    }
}
