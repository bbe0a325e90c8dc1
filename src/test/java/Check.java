/** Counts and prints the answers that are not as due. */
final class Check {
    interface Call {
        int run();
    }

    private static int wrong = 0;

    private Check() {
    }

    static void same(String what, Object got, Object due) {
        if (!got.equals(due)) {
            wrong++;
            System.out.println(what + " answered " + got + ", due is " + due);
        }
    }

    /** The answer, or the exact class of what was thrown: a class below the due one is wrong, too. */
    static String outcome(Call call) {
        try {
            return Integer.toString(call.run());
        } catch (RuntimeException e) {
            return "throws." + e.getClass().getSimpleName();
        }
    }

    static void end() {
        if (wrong > 0) {
            System.out.println(wrong + " answers are not as due");
            System.exit(1);
        }
    }
}
