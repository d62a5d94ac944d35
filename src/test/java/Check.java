/** Counts the answers that are not as due. */
final class Check {
    private static int wrong = 0;

    private Check() {
    }

    interface Call {
        long answer();
    }

    static void due(String call, long got, long want) {
        if (got != want) {
            tell(call + " answered " + got + ", due is " + want);
        }
    }

    static void due(String call, boolean got, boolean want) {
        if (got != want) {
            tell(call + " answered " + got + ", due is " + want);
        }
    }

    static void due(String call, String got, String want) {
        if (!got.equals(want)) {
            tell(call + " answered " + got + ", due is " + want);
        }
    }

    /** The call has to throw just this class, and to leave alone what was found. */
    static void refused(CaseLayout layout, String call, Class<? extends RuntimeException> kind, Call made) {
        String before = Seen.of(layout);
        due(call, answer(made), kind.getSimpleName());
        due(call + ", and what is seen after it", Seen.of(layout), before);
    }

    /** What a call answers, or the very class of what it throws. */
    static String answer(Call made) {
        try {
            return String.valueOf(made.answer());
        } catch (RuntimeException e) {
            return e.getClass().getSimpleName();
        }
    }

    static void tell(String words) {
        wrong++;
        System.out.println(words);
    }

    static void end() {
        System.out.println(wrong == 0 ? "all answers are as due" : wrong + " answers are not as due");
        if (wrong != 0) {
            System.exit(1);
        }
    }
}
