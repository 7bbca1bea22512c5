import java.util.Arrays;

/** Compares answers with those that are due, and ends a test with exit code 1 if one was wrong. */
final class Check {
    interface Call {
        Object answer();
    }

    interface Step {
        void run();
    }

    private static int wrong = 0;
    private static String words = "";

    private Check() {
    }

    /** The test of one sentence of the document: a wrong answer is told together with its words. */
    static void sentence(String wordsOfTheDocument, Step test) {
        words = "\"" + wordsOfTheDocument + "\": ";
        test.run();
        words = "";
    }

    static void due(String call, Object want, Call made) {
        String got = outcome(made);
        if (!got.equals(String.valueOf(want))) {
            wrong++;
            System.out.println(words + call + " answered " + got + ", due is " + want);
        }
    }

    static void refuses(String call, Class<? extends RuntimeException> want, Step made) {
        due(call, refusal(want), () -> {
            made.run();
            return "nothing thrown";
        });
    }

    static void argument(String call, Step made) {
        refuses(call, IllegalArgumentException.class, made);
    }

    static void index(String call, Step made) {
        refuses(call, IndexOutOfBoundsException.class, made);
    }

    static void state(String call, Step made) {
        refuses(call, IllegalStateException.class, made);
    }

    /** That a call without an answer throws nothing. */
    static void allows(String call, Step made) {
        due(call, "nothing thrown", () -> {
            made.run();
            return "nothing thrown";
        });
    }

    /** The answer as text; an exception by its very class, as a subclass is not what is due. */
    static String outcome(Call made) {
        try {
            return String.valueOf(made.answer());
        } catch (RuntimeException e) {
            return refusal(e.getClass());
        }
    }

    /** All that is seen of replica r, in its order, and that nothing comes behind it. */
    static void row(String when, WovenRow x, int r, int... want) {
        int[] got = new int[want.length];
        for (int k = 0; k < want.length; k++) {
            got[k] = x.at(r, k);
        }
        due(when + ": row of " + r, Arrays.toString(want), () -> Arrays.toString(got));
        due(when + ": at behind the row of " + r, -1, () -> x.at(r, want.length));
    }

    /** The four counts of replica r. */
    static void counts(String when, WovenRow x, int r, int... want) {
        for (int what = 0; what < want.length; what++) {
            int kind = what;
            due(when + ": count(" + r + ", " + what + ")", want[what], () -> x.count(r, kind));
        }
    }

    static void end() {
        System.out.println(wrong == 0 ? "all answers are as due" : wrong + " answers are not as due");
        if (wrong != 0) {
            System.exit(1);
        }
    }

    private static String refusal(Class<?> thrown) {
        return "throws." + thrown.getSimpleName();
    }
}
