/** Counts answers that are not as due; a test ends with close(). */
final class Check {
    interface Call {
        long run();
    }

    private final String test;
    /** The sentence of the document that is looked at, or nothing. */
    private String sentence = "";
    private int done;
    private int wrong;

    Check(String test) {
        this.test = test;
    }

    /** What follows is about this sentence of the document, and is reported with it. */
    void about(String itsSentence) {
        sentence = " [" + itsSentence + "]";
    }

    void due(String call, long want, long got) {
        done++;
        if (got != want) {
            report(call + " answered " + got + ", due is " + want);
        }
    }

    void due(String call, long want, Call got) {
        String answer = outcome(got);
        done++;
        if (!answer.equals(String.valueOf(want))) {
            report(call + " answered " + answer + ", due is " + want);
        }
    }

    void index(String call, Call got) {
        throwsExactly(call, "IndexOutOfBoundsException", got);
    }

    void argument(String call, Call got) {
        throwsExactly(call, "IllegalArgumentException", got);
    }

    void state(String call, Call got) {
        throwsExactly(call, "IllegalStateException", got);
    }

    void same(String what, String want, String got) {
        done++;
        if (!got.equals(want)) {
            report(what + " is " + got + ", due is " + want);
        }
    }

    void report(String text) {
        wrong++;
        if (wrong <= 40) {
            System.out.println(test + sentence + ": " + text);
        }
    }

    boolean hasFailed() {
        return wrong > 0;
    }

    void close() {
        System.out.println(test + ": " + done + " answers looked at, " + wrong + " wrong");
        if (wrong > 0) {
            System.exit(1);
        }
    }

    /** The answer of a call, or throws. and the name of what it throws. */
    static String outcome(Call call) {
        try {
            return String.valueOf(call.run());
        } catch (RuntimeException e) {
            return "throws." + e.getClass().getSimpleName();
        }
    }

    private void throwsExactly(String call, String name, Call got) {
        String answer = outcome(got);
        done++;
        if (!answer.equals("throws." + name)) {
            report(call + " answered " + answer + ", due is throws." + name);
        }
    }
}
