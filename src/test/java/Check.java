/** Counts the checks of a test that fail, and ends the test with exit code 1 if there was one. */
final class Check {
    interface Call {
        Object answer();
    }

    private static final int MOST_TOLD = 50;

    private final String test;
    private int checks = 0;
    private int wrong = 0;

    Check(String test) {
        this.test = test;
    }

    /** What a call answers, or "throws." and the name of what it throws. */
    static String told(Call call) {
        try {
            return String.valueOf(call.answer());
        } catch (RuntimeException thrown) {
            // A subclass is what the machine throws, and shows here by its own name.
            return "throws." + thrown.getClass().getSimpleName();
        }
    }

    void due(String what, Object want, Call call) {
        checks++;
        String got = told(call);
        if (!got.equals(String.valueOf(want))) {
            wrong++;
            if (wrong <= MOST_TOLD) {
                System.out.println(test + ": " + what + " answered " + got + ", due is " + want);
            }
        }
    }

    void end() {
        System.out.println(test + ": " + checks + " checks, " + wrong + " wrong");
        if (wrong != 0 || checks == 0) {
            System.exit(1);
        }
    }
}
