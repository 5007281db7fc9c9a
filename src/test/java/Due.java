/** What a test is due to be answered; what isn't is printed and counted. */
final class Due {
    private static int asked = 0;
    private static int wrong = 0;
    private static String sentence = "";

    private Due() {
    }

    /** The sentence of the document that the answers from here on are due by. */
    static void by(String words) {
        sentence = words;
    }

    static void is(String call, long got, long want) {
        asked++;
        if (got != want) {
            wrong++;
            System.out.println(call + " answered " + got + ", due is " + want + told());
        }
    }

    static void holds(String what, boolean holds) {
        asked++;
        if (!holds) {
            wrong++;
            System.out.println("it doesn't hold: " + what + told());
        }
    }

    private static String told() {
        return sentence.isEmpty() ? "" : ", by: " + sentence;
    }

    static boolean isAnyWrong() {
        return wrong > 0;
    }

    static void end() {
        System.out.println(asked + " answers looked at, " + wrong + " not as due");
        if (wrong > 0 || asked == 0) {
            System.exit(1);
        }
    }
}
