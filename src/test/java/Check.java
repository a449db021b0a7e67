/** What the tests by sentence have in common: the numbers of the document, and what is said of a wrong answer. */
final class Check {
    static final int NONE = -1, UNKNOWN = -1000000001, OUTSIDE = -1000000002, NOT = -1000000003, FULL = -1000000004;
    static final int LOW = Integer.MIN_VALUE, HIGH = Integer.MAX_VALUE;
    static final int M = 1000000;
    private static final int SHOWN = 60;
    private static int wrong = 0;

    private Check() {
    }

    static void due(String what, int got, int want) {
        if (got == want) return;
        wrong++;
        if (wrong <= SHOWN) System.out.println(what + " answered " + got + ", due is " + want);
    }

    static void holds(String what, boolean so) {
        due(what, so ? 1 : 0, 1);
    }

    static boolean isRefusal(int answer) {
        return answer == UNKNOWN || answer == OUTSIDE || answer == NOT || answer == FULL;
    }

    static void end() {
        if (wrong != 0) System.exit(1);
    }
}
