/** What the project's tests share: compares answers, counts the wrong ones, and ends the test. */
final class Check {
    interface Call {
        long answer();
    }

    private static int wrong = 0;

    private Check() {
    }

    static void due(String call, long got, long want) {
        if (got != want) {
            say(call + " answered " + got + ", due is " + want);
        }
    }

    static void due(String call, boolean got, boolean want) {
        due(call, got ? 1 : 0, want ? 1 : 0);
    }

    /** The exception must be of this very class: what the machine throws is mostly of a class below. */
    static void dueThrow(String call, Class<? extends RuntimeException> want, Call body) {
        try {
            long got = body.answer();
            say(call + " answered " + got + ", due is " + want.getSimpleName());
        } catch (RuntimeException e) {
            if (e.getClass() != want) {
                say(call + " threw " + e.getClass().getSimpleName() + ", due is " + want.getSimpleName());
            }
        }
    }

    /** The answer as text, or the exception's name behind throws. */
    static String answer(Call body) {
        try {
            return Long.toString(body.answer());
        } catch (RuntimeException e) {
            return "throws." + e.getClass().getSimpleName();
        }
    }

    static void dueIndex(String call, Call body) {
        dueThrow(call, IndexOutOfBoundsException.class, body);
    }

    static void dueArgument(String call, Call body) {
        dueThrow(call, IllegalArgumentException.class, body);
    }

    static void dueState(String call, Call body) {
        dueThrow(call, IllegalStateException.class, body);
    }

    static void dueUnsupported(String call, Call body) {
        dueThrow(call, UnsupportedOperationException.class, body);
    }

    static void say(String text) {
        wrong++;
        if (wrong <= 50) {
            System.out.println(text);
        }
    }

    static int wrongs() {
        return wrong;
    }

    static void end() {
        System.out.println(wrong == 0 ? "all answers are as due" : wrong + " answers are not as due");
        if (wrong != 0) {
            System.exit(1);
        }
    }
}
