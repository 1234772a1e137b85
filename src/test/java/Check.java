/** Compares answers with what is due, and ends a test with exit code 1 if one was wrong. */
final class Check {
    private static int looked = 0;
    private static int wrong = 0;

    private Check() {
    }

    static void due(String call, long got, long want) {
        looked++;
        if (got != want) {
            wrong++;
            if (wrong <= 50) {
                System.out.println(call + " answered " + got + ", due is " + want);
            }
        }
    }

    static void holds(String what, boolean does) {
        looked++;
        if (!does) {
            wrong++;
            System.out.println("does not hold: " + what);
        }
    }

    /** Wipes the PAD and says a text on it. */
    static void text(NodTax x, String text) {
        x.wipe();
        for (int i = 0; i < text.length(); i++) {
            due("say " + text.charAt(i), x.say(text.charAt(i)), i + 1);
        }
    }

    static void end() {
        System.out.println(looked + " answers looked at, " + wrong + " wrong");
        if (wrong != 0) {
            System.exit(1);
        }
    }
}
