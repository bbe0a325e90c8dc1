/** Counts and prints the answers that are not as due. */
final class Check {
    interface Call {
        int run();
    }

    private static int wrong = 0;
    private static String sentence = "";

    private Check() {
    }

    /** The document's words by which the answers are due from here on, so that a fault names what it breaks. */
    static void sentence(String words) {
        sentence = "\"" + words + "\" ";
    }

    static void same(String what, Object got, Object due) {
        if (!got.equals(due)) {
            wrong++;
            System.out.println(sentence + what + " answered " + got + ", due is " + due);
        }
    }

    /** The answer, or the exact class of what was thrown: a class below the due one is wrong, too. */
    static String outcome(Call call) {
        try {
            return Integer.toString(call.run());
        } catch (RuntimeException e) {
            return "throws." + e.getClass().getSimpleName();
        }
    }

    static void end() {
        if (wrong > 0) {
            System.out.println(wrong + " answers are not as due");
            System.exit(1);
        }
    }
}
