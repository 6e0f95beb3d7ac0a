/** What the tests share: counting answers that are not due, and writing a text letter by letter. */
final class Check {
    /** Beside 0 to 5: just below, just above, and such as come to 0 or 1 when cut to five or more bits. */
    static final int[] NO_STATIONS = {-1, 6, 32, 33, 64, 256, 65536, -32, Integer.MIN_VALUE, Integer.MAX_VALUE};

    private static int calls = 0;
    private static int wrong = 0;

    private Check() {
    }

    static void due(String call, int got, int want) {
        calls++;
        if (got != want) {
            wrong++;
            System.out.println(call + " answered " + got + ", due is " + want);
        }
    }

    static void dueAll(String calls, int[] got, int... want) {
        due(calls + ", how many", got.length, want.length);
        for (int k = 0; k < got.length && k < want.length; k++) {
            due(calls + " [" + k + "]", got[k], want[k]);
        }
    }

    static boolean anyWrong() {
        return wrong > 0;
    }

    static void finish(String name) {
        System.out.println(name + ": " + calls + " answers looked at, " + wrong + " not as due");
        if (wrong > 0) {
            System.exit(1);
        }
    }

    static void rewrite(HeardSlots x, String text) {
        x.wipe();
        for (int k = 0; k < text.length(); k++) {
            x.write(text.charAt(k));
        }
    }

    /** A new object on which the text has been laid. */
    static HeardSlots laid(String text) {
        HeardSlots x = new HeardSlots();
        rewrite(x, text);
        int n = text.charAt(1) - '0';
        due("lay() of " + text, x.lay(), n);
        return x;
    }

    static int[] stations(HeardSlots x, int what) {
        int[] answers = new int[x.count(0)];
        for (int i = 0; i < answers.length; i++) {
            answers[i] = x.station(i, what);
        }
        return answers;
    }

    static int[] counts(HeardSlots x) {
        int[] answers = new int[15];
        for (int what = 0; what < 15; what++) {
            answers[what] = x.count(what);
        }
        return answers;
    }
}
