/** Promises 34 to 43: acts, shelves, and what is counted. */
public final class ActsTest {
    private static final long MIN = Long.MIN_VALUE;

    public static void main(String[] args) {
        body();
        act();
        trace();
        keepAndTaken();
        row();
        put();
        element();
        shift();
        shiftRefuses();
        count();
        Due.end("ActsTest");
    }

    private static void body() {
        LawfulSums x = new LawfulSums();
        for (int i = 0; i < 50; i++) {
            Due.same("34 body(8)", x.body(8), LawfulSums.BAD);
            Due.same("34 body(-1)", x.body(-1), LawfulSums.BAD);
            Due.same("34 count(5)", x.count(5), i);
            Due.same("34 body(" + i % 8 + ")", x.body(i % 8), i);
        }
        Due.same("34 body(0), full", x.body(0), LawfulSums.FULL);
        Due.same("34 bad ahead of full", x.body(8), LawfulSums.BAD);
        Due.same("34 count(5)", x.count(5), 50);
    }

    private static void acts(LawfulSums x, int body, int act, int arg, int want, int... trace) {
        String call = "35 act(" + body + ", " + act + ", " + arg + ")";
        Due.same(call, x.act(body, act, arg), want);
        Due.same(call + " count(6)", x.count(6), trace.length);
        for (int i = 0; i < trace.length; i++) {
            Due.same(call + " trace(" + i + ")", x.trace(i), trace[i]);
        }
        Due.same(call + " trace", x.trace(trace.length), LawfulSums.BAD);
    }

    /** Each KIND's number is its own, so that kind and number are alike. */
    private static void act() {
        LawfulSums x = new LawfulSums();
        for (int kind = 0; kind < 8; kind++) {
            x.body(kind);
        }
        acts(x, 0, 0, 5, 5, 1);
        acts(x, 0, 1, 5, 10, 10, 1);
        acts(x, 0, 2, 5, 5, 11);
        acts(x, 0, 3, 5, 10 - 1, 2, 10, 1, 11);
        acts(x, 1, 0, 5, 9, 20, 1);
        acts(x, 1, 1, 5, 18, 10, 20, 1);
        acts(x, 1, 2, 5, 4, 11);
        acts(x, 1, 3, 5, 18 - 0, 2, 10, 20, 1, 11);
        acts(x, 2, 0, 5, 7, 1);
        acts(x, 2, 1, 5, -14, 30, 10, 1);
        acts(x, 2, 2, 5, 7, 11);
        acts(x, 2, 3, 5, -14 - 3, 2, 30, 10, 1, 11);
        acts(x, 3, 0, 5, 8, 1);
        acts(x, 3, 1, 5, -18, 41, 30, 10, 1);
        acts(x, 3, 2, 5, 18, 40, 11);
        acts(x, 3, 3, 5, -18 - 6, 2, 41, 30, 10, 1, 40, 11);
        acts(x, 4, 0, 5, 12, 20, 1);
        acts(x, 4, 1, 5, 24, 10, 20, 1);
        acts(x, 4, 2, 5, 1 - 9, 50, 11, 20, 1);
        acts(x, 4, 3, 5, 24 - (5 - 9), 2, 10, 20, 1, 50, 11, 20, 1);
        acts(x, 5, 0, 5, 20, 60, 1);
        acts(x, 5, 1, 5, 40, 10, 60, 1);
        acts(x, 5, 3, 5, 40 - 4, 2, 10, 60, 1, 11);
        acts(x, 6, 0, 5, 22, 60, 1);
        acts(x, 6, 2, 5, 3, 11);
        acts(x, 6, 3, 5, 44 - 7 ^ 5, 70, 2, 10, 60, 1, 11);
        acts(x, 7, 0, 5, 12, 1);
        acts(x, 7, 1, 5, 24 + 5, 80, 10, 1, 11);
        acts(x, 7, 3, 5, 29 - 6 - 1, 81, 2, 80, 10, 1, 11, 11);
        acts(x, 7, 0, Integer.MAX_VALUE, Integer.MIN_VALUE + 6, 1);
        acts(x, 3, 1, Integer.MAX_VALUE, -2 * (Integer.MIN_VALUE + 3), 41, 30, 10, 1);
        int[][] none = {{-1, 0}, {8, 0}, {0, -1}, {0, 4}, {50, 0}, {Integer.MIN_VALUE, 0}, {0, Integer.MAX_VALUE}};
        for (int[] n : none) {
            x.act(7, 3, 5);
            acts(x, n[0], n[1], 5, 0);
            Due.same("36 trace(0)", x.trace(0), LawfulSums.BAD);
        }
    }

    private static void trace() {
        LawfulSums x = new LawfulSums();
        x.body(0);
        x.act(0, 3, 5);
        Due.same("36 trace(0)", x.trace(0), 2);
        Due.same("36 trace(3)", x.trace(3), 11);
        for (int i : new int[] {-1, 4, 23, 24, 25, Integer.MIN_VALUE, Integer.MAX_VALUE}) {
            Due.same("36 trace(" + i + ")", x.trace(i), LawfulSums.BAD);
        }
        x.body(9);
        Due.same("36 it stays till the next act", x.trace(0), 2);
        x.act(0, 0, 1);
        Due.same("36 the latest alone", x.trace(1), LawfulSums.BAD);
    }

    private static void keepAndTaken() {
        boolean[][] under = new boolean[8][8];
        int[] above = {-1, 0, 0, 2, 1, 0, 5, 0};
        for (int kind = 0; kind < 8; kind++) {
            for (int k = kind; k >= 0; k = above[k]) {
                under[kind][k] = true;
            }
        }
        LawfulSums x = new LawfulSums();
        Due.same("37 no such payment", x.keep(0, 0), LawfulSums.BAD);
        for (int kind = 0; kind < 8; kind++) {
            int body = x.body(kind);
            Due.same("37 keep", x.keep(kind % 6, body), 1);
            for (int k = 0; k < 8; k++) {
                Due.same("42 " + kind + " taken for " + k, x.taken(kind % 6, k), under[kind][k] ? kind : -12);
            }
        }
        int[][] bad = {{-1, 0}, {6, 0}, {0, -2}, {0, 8}, {0, Integer.MAX_VALUE}, {Integer.MIN_VALUE, 0}};
        for (int[] b : bad) {
            Due.same("37 keep(" + b[0] + ", " + b[1] + ")", x.keep(b[0], b[1]), LawfulSums.BAD);
            Due.same("42 taken(" + b[0] + ", " + b[1] + ")", x.taken(b[0], b[1]), LawfulSums.BAD);
        }
        Due.same("42 bad kept it", x.taken(0, 0), 6);
        Due.same("37 keep(0, -1)", x.keep(0, -1), 1);
        Due.same("42 nothing", x.taken(0, 0), -11);
        x.row(0, 0, 5);
        Due.same("42 a row", x.taken(0, 0), -12);
        x.keep(0, 0);
        Due.same("42 a payment again", x.taken(0, 0), 0);
    }

    private static void row() {
        LawfulSums x = new LawfulSums();
        Due.same("38 row(0, 3, 60)", x.row(0, 3, 60), 1);
        for (int i = 0; i < 60; i++) {
            Due.same("38 element", x.element(0, i), 0);
            x.put(0, i, i + 1);
        }
        Due.same("38 it has 60", x.element(0, 60), MIN);
        Due.same("38 row(0, 3, 61)", x.row(0, 3, 61), LawfulSums.BAD);
        Due.same("38 row(0, 5, 1)", x.row(0, 5, 1), LawfulSums.BAD);
        Due.same("38 row(0, -1, 1)", x.row(0, -1, 1), LawfulSums.BAD);
        Due.same("38 row(6, 0, 1)", x.row(6, 0, 1), LawfulSums.BAD);
        Due.same("38 row(-1, 0, 1)", x.row(-1, 0, 1), LawfulSums.BAD);
        Due.same("38 row(0, 0, -1)", x.row(0, 0, -1), -14);
        Due.same("38 row(0, 0, MIN)", x.row(0, 0, Integer.MIN_VALUE), -14);
        Due.same("38 bad ahead of -14", x.row(0, 5, -1), LawfulSums.BAD);
        Due.same("38 bad ahead of -14", x.row(6, 0, -1), LawfulSums.BAD);
        Due.same("38 all that changed nothing", x.element(0, 59), 60);
        Due.same("38 row(0, 3, 10)", x.row(0, 3, 10), 1);
        Due.same("38 a new one is of 0", x.element(0, 9), 0);
        Due.same("38 it has 10", x.element(0, 10), MIN);
        Due.same("38 row(0, 4, 0)", x.row(0, 4, 0), 1);
        Due.same("38 it has none", x.put(0, 0, 1), -13);
    }

    private static void put() {
        LawfulSums x = new LawfulSums();
        long[] in = {127, 128, 255, 256, -1, -129, 32768, 65536, 1L << 31, 1L << 32, MIN, Long.MAX_VALUE, 0, 2};
        for (int sort = 0; sort < 5; sort++) {
            x.row(sort, sort, 3);
            for (long v : in) {
                Due.same("39 put", x.put(sort, 2, v), 1);
                long[] want = {(byte) v, (short) v, (int) v, v, v != 0 ? 1 : 0};
                Due.same("39 sort " + sort + " keeps of " + v, x.element(sort, 2), want[sort]);
            }
            Due.same("39 the others stay", x.element(sort, 1), 0);
            for (int i : new int[] {-1, 3, 60, Integer.MIN_VALUE, Integer.MAX_VALUE}) {
                Due.same("39 put(" + sort + ", " + i + ", 1)", x.put(sort, i, 1), -13);
            }
        }
        Due.same("39 nothing", x.put(5, 0, 1), -11);
        Due.same("39 nothing", x.put(5, -1, 1), -11);
        x.body(0);
        x.keep(5, 0);
        Due.same("39 a payment", x.put(5, 0, 1), -12);
        Due.same("39 a payment", x.put(5, -1, 1), -12);
        Due.same("39 put(6, 0, 1)", x.put(6, 0, 1), LawfulSums.BAD);
        Due.same("39 put(-1, 0, 1)", x.put(-1, 0, 1), LawfulSums.BAD);
    }

    private static void element() {
        LawfulSums x = new LawfulSums();
        x.row(0, 3, 2);
        x.put(0, 1, 1L << 40);
        Due.same("40 element(0, 1)", x.element(0, 1), 1L << 40);
        x.body(0);
        x.keep(1, 0);
        int[][] none = {{0, -1}, {0, 2}, {1, 0}, {2, 0}, {-1, 0}, {6, 0}, {0, Integer.MAX_VALUE}};
        for (int[] n : none) {
            Due.same("40 element(" + n[0] + ", " + n[1] + ")", x.element(n[0], n[1]), MIN);
        }
    }

    private static void shift() {
        LawfulSums x = new LawfulSums();
        x.row(0, 2, 6);
        x.row(1, 2, 4);
        for (int i = 0; i < 6; i++) {
            x.put(0, i, i + 1);
        }
        Due.same("41 shift(0, 0, 0, 2, 4)", x.shift(0, 0, 0, 2, 4), 4);
        long[] behind = {1, 2, 1, 2, 3, 4};
        for (int i = 0; i < 6; i++) {
            Due.same("41 element(0, " + i + ")", x.element(0, i), behind[i]);
        }
        Due.same("41 shift(0, 2, 0, 0, 4)", x.shift(0, 2, 0, 0, 4), 4);
        long[] ahead = {1, 2, 3, 4, 3, 4};
        for (int i = 0; i < 6; i++) {
            Due.same("41 element(0, " + i + ")", x.element(0, i), ahead[i]);
        }
        Due.same("41 shift(0, 3, 1, 1, 3)", x.shift(0, 3, 1, 1, 3), 3);
        long[] other = {0, 4, 3, 4};
        for (int i = 0; i < 4; i++) {
            Due.same("41 element(1, " + i + ")", x.element(1, i), other[i]);
        }
        Due.same("41 none, from its end to the other's", x.shift(0, 6, 1, 4, 0), 0);
    }

    private static void shiftRefuses() {
        LawfulSums x = new LawfulSums();
        x.row(0, 2, 6);
        x.row(1, 2, 4);
        x.row(2, 3, 6);
        x.body(0);
        x.keep(3, 0);
        int max = Integer.MAX_VALUE, min = Integer.MIN_VALUE;
        int[][] due = {{0, 0, 1, 0, 5, -13}, {1, 0, 0, 0, 5, -13}, {0, 0, 1, 0, -1, -13}, {0, -1, 1, 0, 1, -13}, {0, 0, 1, -1, 1, -13},
            {0, 7, 1, 0, 0, -13}, {0, 0, 1, 5, 0, -13}, {0, 1, 1, 0, max, -13}, {0, max, 1, 0, 1, -13}, {0, 0, 1, max, max, -13},
            {0, min, 1, 0, 1, -13}, {0, 3, 1, 0, 4, -13}, {0, 0, 1, 2, 3, -13}, {0, 0, 1, 0, min, -13},
            {0, 0, 2, 0, 1, -12}, {0, 0, 2, 9, 1, -12}, {0, 0, 3, 0, 1, -12}, {3, 0, 0, 0, 1, -12}, {3, 0, 3, 0, 0, -12},
            {4, 0, 0, 0, 1, -11}, {0, 0, 4, 0, 1, -11}, {3, 0, 4, 0, 1, -11}, {4, 0, 3, 0, 1, -11}, {4, -1, 5, -1, -1, -11},
            {-1, 0, 0, 0, 1, -1}, {6, 0, 0, 0, 1, -1}, {0, 0, -1, 0, 1, -1}, {4, 0, 6, 0, 1, -1}};
        for (int[] d : due) {
            Due.same("41 shift(" + d[0] + ", " + d[1] + ", " + d[2] + ", " + d[3] + ", " + d[4] + ")",
                x.shift(d[0], d[1], d[2], d[3], d[4]), d[5]);
        }
    }

    private static void count() {
        LawfulSums x = new LawfulSums();
        x.force(2);
        x.coin(5, 0);
        x.coin(5, 3);
        x.debt(1, 5);
        x.debt(2, 5);
        x.debt(3, 5);
        x.debt(3, 0);
        x.feed(3, 0);
        x.body(0);
        x.body(1);
        x.body(2);
        x.act(1, 3, 0);
        int[] want = {2, 2, 2, 3, 4, 3, 5};
        for (int what = 0; what < 7; what++) {
            Due.same("43 count(" + what + ")", x.count(what), want[what]);
        }
        for (int what : new int[] {-1, 7, Integer.MIN_VALUE, Integer.MAX_VALUE}) {
            Due.same("43 count(" + what + ")", x.count(what), LawfulSums.BAD);
        }
    }
}
