/** Compares answers with those that are due, and ends a test. */
final class Due {
    private static int asked = 0;
    private static int wrong = 0;
    private static String test = "";
    private static int askedAhead = 0;

    private Due() {
    }

    /** What is asked from now on belongs to a test of this name. */
    static void begin(String name) {
        test = name + ": ";
        askedAhead = asked;
    }

    static boolean hasAsked() {
        return asked > askedAhead;
    }

    static void due(String call, long got, long want) {
        asked++;
        if (got != want) {
            wrong++;
            System.out.println(test + call + " answered " + got + ", due is " + want);
        }
    }

    static void end(String tests) {
        System.out.println(tests + ": " + asked + " answers, " + wrong + " not as due");
        if (wrong != 0 || asked == 0) {
            System.exit(1);
        }
    }

    /** Bytes come behind a text, as characters. */
    static void type(RopeLadder x, int text, String bytes) {
        for (int i = 0; i < bytes.length(); i++) {
            x.type(text, bytes.charAt(i));
        }
    }

    static RopeLadder withSwells(String swells) {
        RopeLadder x = new RopeLadder();
        type(x, 0, swells);
        return x;
    }

    static RopeLadder withSwellsAndRoll(String swells, String roll) {
        RopeLadder x = withSwells(swells);
        type(x, 1, roll);
        return x;
    }
}
