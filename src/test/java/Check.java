/** Counts and prints the answers that are not the ones that are due. */
final class Check {
    /** A call of the room, its answer as a number (a boolean counts 1 or 0). */
    interface Call {
        long answer();
    }

    private int checked;
    private int wrong;
    private String topic = "";

    void topic(String name) {
        topic = name;
    }

    void same(String what, long got, long due) {
        checked++;
        if (got != due) {
            note(what + " answered " + got + ", due is " + due);
        }
    }

    void same(String what, boolean got, boolean due) {
        same(what, got ? 1 : 0, due ? 1 : 0);
    }

    /** Two numbers with a point are the same if all their bits are, but for the sign of 0. */
    void sameNumber(String what, double got, double due) {
        sameText(what, Double.toString(got + 0.0), Double.toString(due + 0.0));
    }

    void sameText(String what, String got, String due) {
        checked++;
        if (!got.equals(due)) {
            note(what + " answered " + got + ", due is " + due);
        }
    }

    void illegal(String what, Call call) {
        sameText(what, outcome(call), "IllegalArgumentException");
    }

    void outside(String what, Call call) {
        sameText(what, outcome(call), "IndexOutOfBoundsException");
    }

    void full(String what, Call call) {
        sameText(what, outcome(call), "IllegalStateException");
    }

    /** The document's print: it begins with 17 for a letter, with 19 for a list. */
    static int print(int begin, int... values) {
        int p = begin;
        for (int value : values) {
            p = (p * 31 + value) % 997;
        }
        return p;
    }

    /** The answer as a text, or the exact class of what the call throws. */
    static String outcome(Call call) {
        try {
            return Long.toString(call.answer());
        } catch (RuntimeException thrown) {
            return thrown.getClass().getSimpleName();
        }
    }

    /** Ends the program with exit code 1 if an answer was wrong. */
    void end() {
        System.out.println(checked + " answers looked at, " + wrong + " wrong");
        if (wrong > 0 || checked == 0) {
            System.exit(1);
        }
    }

    private void note(String text) {
        wrong++;
        if (wrong <= 50) {
            System.out.println(topic + ": " + text);
        }
    }
}
