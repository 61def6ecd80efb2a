/** Counts and prints the answers that are not as due. */
final class Check {
    interface Call {
        Object run();
    }

    private static int wrong = 0;
    private static int asked = 0;

    private Check() {
    }

    static void due(String what, Object want, Call call) {
        asked++;
        String got = answer(call);
        if (!got.equals(want.toString())) {
            wrong++;
            System.out.println(what + " answered " + got + ", due is " + want);
        }
    }

    static void isTrue(String what, boolean holds) {
        due(what, true, () -> holds);
    }

    /** What a call returns, or throws.X, where X is the very class of what it throws. */
    static String answer(Call call) {
        try {
            return String.valueOf(call.run());
        } catch (RuntimeException e) {
            return "throws." + e.getClass().getSimpleName();
        }
    }

    /** How many answers were asked for so far. */
    static int asked() {
        return asked;
    }

    static void end() {
        System.out.println(wrong == 0 ? asked + " answers are as due" : wrong + " of " + asked + " are not as due");
        if (wrong != 0) {
            System.exit(1);
        }
    }
}
