/** What the tests share: counting wrong answers, and objects that are used for no more calls than are promised. */
final class Due {
    private static final int PROMISED_CALLS = 512;
    private static final int SHOWN = 20;

    static final long GREATEST = 1_000_000_000_000L;

    private static int asked;
    private static int wrong;
    private static GoldHeaps held = new GoldHeaps();
    private static int calls;

    private Due() {
    }

    static void due(String call, long got, long want) {
        asked++;
        if (got != want) {
            wrong++;
            if (wrong <= SHOWN) {
                System.out.println("  " + call + " answered " + got + ", due is " + want);
            }
        }
    }

    static void holds(String what, boolean yes) {
        due(what, yes ? 1 : 0, 1);
    }

    static int asked() {
        return asked;
    }

    static int wrong() {
        return wrong;
    }

    /** An object for one call whose answer does not hang on the board. */
    static GoldHeaps any() {
        if (calls == PROMISED_CALLS) {
            held = new GoldHeaps();
            calls = 0;
        }
        calls++;
        return held;
    }

    static void end() {
        System.out.println("  " + asked + " answers, " + wrong + " not as due");
        if (asked == 0 || wrong != 0) {
            System.exit(1);
        }
    }
}
