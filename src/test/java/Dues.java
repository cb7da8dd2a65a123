/** Counts and prints the answers that are not as due. */
final class Dues {
    interface Call {
        Object answer();
    }

    private int asked = 0;
    private int wrong = 0;

    void due(String call, Call got, long want) {
        compare(call, outcomeOf(got), String.valueOf(want));
    }

    void due(String call, Call got, boolean want) {
        compare(call, outcomeOf(got), String.valueOf(want));
    }

    void due(String call, Call got, double want) {
        compare(call, outcomeOf(got), String.valueOf(want));
    }

    void noGuest(String call, Call got) {
        compare(call, outcomeOf(got), "throws IndexOutOfBoundsException");
    }

    void badArgument(String call, Call got) {
        compare(call, outcomeOf(got), "throws IllegalArgumentException");
    }

    void badState(String call, Call got) {
        compare(call, outcomeOf(got), "throws IllegalStateException");
    }

    void compare(String call, String got, String want) {
        asked++;
        if (!got.equals(want)) {
            wrong++;
            System.out.println(call + ": " + got + ", due is " + want);
        }
    }

    /** The very class counts: what the machine throws by itself is a subclass of what the document names. */
    static String outcomeOf(Call call) {
        try {
            return String.valueOf(call.answer());
        } catch (RuntimeException e) {
            return "throws " + e.getClass().getSimpleName();
        }
    }

    void end() {
        System.out.println(asked + " answers, " + wrong + " not as due");
        if (wrong != 0) {
            System.exit(1);
        }
    }
}
