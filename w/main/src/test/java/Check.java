/** Counts and prints the calls of one test whose answers are not the ones that are due. */
final class Check {
    interface Call {
        Object answer();
    }

    interface Change {
        void happen();
    }

    private int wrong = 0;
    private String sentence = "";

    /** The document's words on which the calls that follow stand; they are printed with a wrong answer. */
    void sentence(String words) {
        sentence = "\"" + words + "\": ";
    }

    void due(String call, Call got, Object want) {
        compare(call, outcome(got), String.valueOf(want));
    }

    void done(String call, Change change) {
        compare(call, outcome(change), "done");
    }

    void thrown(String call, Call got, Class<? extends RuntimeException> want) {
        compare(call, outcome(got), name(want));
    }

    void refused(String call, Change change, Class<? extends RuntimeException> want) {
        compare(call, outcome(change), name(want));
    }

    void compare(String call, String got, String want) {
        if (!got.equals(want)) {
            wrong++;
            System.out.println(sentence + call + " answered " + got + ", due is " + want);
        }
    }

    void end() {
        if (wrong != 0) {
            System.out.println(wrong + " answers are not as due");
            System.exit(1);
        }
    }

    static String outcome(Call call) {
        try {
            return String.valueOf(call.answer());
        } catch (RuntimeException e) {
            return name(e.getClass());
        }
    }

    static String outcome(Change change) {
        return outcome(() -> {
            change.happen();
            return "done";
        });
    }

    // The very class counts: a subclass of the exception that is due is another exception.
    private static String name(Class<? extends RuntimeException> thrown) {
        return "throws." + thrown.getName();
    }
}
