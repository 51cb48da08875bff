/** Counts wrong answers and prints each of them, with the sentence of the document that it breaks. */
final class Check {
    private String sentence = "";
    private int wrong;

    /** From here on the answers are due by this sentence. */
    void says(String words) {
        sentence = "\"" + words + "\": ";
    }

    void due(String what, long got, long want) {
        due(what, Long.toString(got), Long.toString(want));
    }

    void due(String what, String got, String want) {
        if (!got.equals(want)) {
            wrong++;
            System.out.println(sentence + what + ": answered " + got + ", due is " + want);
        }
    }

    interface Call {
        long answer();
    }

    /** What a call answers, or which exception it throws, and whether it was the machine that threw it. */
    static String told(Call call) {
        try {
            return Long.toString(call.answer());
        } catch (RuntimeException e) {
            return (isByTheMachine(e) ? "the machine " : "") + "throws." + e.getClass().getSimpleName();
        }
    }

    /** By its words: the machine tells indices and references so, and leaves the trace out when it is in a hurry. */
    private static boolean isByTheMachine(RuntimeException e) {
        String words = e.getMessage() == null ? "" : e.getMessage();
        return e.getStackTrace().length == 0 || words.startsWith("Index ") || words.startsWith("Cannot ")
                || words.equals("/ by zero");
    }

    void end(String name) {
        System.out.println(name + ": " + (wrong == 0 ? "all answers are as due" : wrong + " answers are not as due"));
        if (wrong != 0) {
            System.exit(1);
        }
    }
}
