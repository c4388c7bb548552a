/** Compares answers with those that are due, and ends a test. */
final class Due {
    private static int right = 0;
    private static int wrong = 0;

    private Due() {
    }

    static void same(String call, long got, long want) {
        if (got == want) {
            right++;
        } else {
            wrong++;
            System.out.println(call + " answered " + got + ", due is " + want);
        }
    }

    static void holds(String what, boolean holds) {
        same(what, holds ? 1 : 0, 1);
    }

    /** Feeds a text, four bytes at a time as far as they go. */
    static void tape(LawfulSums x, String text) {
        for (int i = 0; i < text.length(); i += 4) {
            int n = Math.min(4, text.length() - i), v = 0;
            for (int k = 0; k < n; k++) {
                v |= (text.charAt(i + k) & 255) << 8 * k;
            }
            x.feed(n, v);
        }
    }

    static int told(LawfulSums x, String text) {
        tape(x, text);
        return x.seller();
    }

    static void end(String test) {
        System.out.println(test + ": " + right + " as due, " + wrong + " not");
        if (wrong != 0) {
            System.exit(1);
        }
    }
}
