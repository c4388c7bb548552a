/** Promises 1 to 7: a new object, and what is lawful. */
public final class LawsTest {
    private static final long MIN = Long.MIN_VALUE;

    public static void main(String[] args) {
        newObject();
        force();
        lawfulByEachLaw();
        lawfulAboveAMillion();
        part();
        parts();
        proof();
        look();
        Due.end("LawsTest");
    }

    private static void newObject() {
        LawfulSums x = new LawfulSums();
        for (int what = 0; what <= 6; what++) {
            Due.same("1 new: count(" + what + ")", x.count(what), 0);
        }
        for (int ab = 0; ab < 78; ab++) {
            if (ab / 10 != ab % 10 && ab % 10 < 8) {
                Due.same("1 new: owes(" + ab + ")", x.owes(ab), 0);
            }
        }
        Due.same("1 new: coins(0, -1)", x.coins(0, -1), 0);
        Due.same("1 new: coins(2, -1)", x.coins(2, -1), LawfulSums.NOT);
        Due.same("1 new: judge()", x.judge(), LawfulSums.NOT);
        Due.same("1 new: struck()", x.struck(), 0);
        Due.same("1 new: round()", x.round(), 0);
        Due.same("1 new: settle(0)", x.settle(0), 0);
        Due.same("1 new: undo()", x.undo(), LawfulSums.STATE);
        Due.same("1 new: redo()", x.redo(), LawfulSums.STATE);
        Due.same("1 new: trace(0)", x.trace(0), LawfulSums.BAD);
        Due.same("1 new: element(0, 0)", x.element(0, 0), MIN);
        Due.same("1 new: put(0, 0, 1)", x.put(0, 0, 1), -11);
    }

    private static void force() {
        LawfulSums x = new LawfulSums();
        Due.same("2 force(2)", x.force(2), 0);
        Due.same("2 force(3)", x.force(3), 2);
        Due.same("2 force(4)", x.force(4), LawfulSums.BAD);
        Due.same("2 force(-1)", x.force(-1), LawfulSums.BAD);
        Due.same("2 force(MIN)", x.force(Integer.MIN_VALUE), LawfulSums.BAD);
        Due.same("2 count(0)", x.count(0), 3);
        Due.same("2 force(1)", x.force(1), 3);
        Due.same("2 force(0)", x.force(0), 1);
    }

    private static void lawfulByEachLaw() {
        int[][] lawful = {
            {2, 3, 5, 7, 11, 13, 17, 19, 23, 29},
            {4, 6, 9, 10, 14, 15, 21, 22, 25, 26},
            {4, 5, 6, 7, 8, 9, 10, 12, 13, 14, 15, 16, 18, 19, 20, 21, 22, 24, 25, 26, 28},
            {3, 5, 7, 11, 13, 17, 19, 29},
        };
        LawfulSums x = new LawfulSums();
        for (int law = 0; law < 4; law++) {
            x.force(law);
            for (int n = 0; n < 30; n++) {
                int want = 0;
                for (int one : lawful[law]) {
                    if (one == n) {
                        want = 1;
                    }
                }
                Due.same("3 law " + law + " lawful(0, " + n + ")", x.lawful(0, n), want);
            }
        }
    }

    private static void lawfulAboveAMillion() {
        LawfulSums x = new LawfulSums();
        Due.same("3 lawful(1, 3)", x.lawful(1, 3), 1);
        Due.same("3 lawful(1, 1)", x.lawful(1, 1), 0); // 101 * 9901
        Due.same("3 lawful(999999, 999989)", x.lawful(999999, 999989), 1);
        Due.same("3 lawful(999999, 999999)", x.lawful(999999, 999999), 0);
        Due.same("3 lawful(999966, 289)", x.lawful(999966, 289), 0); // 999983 * 999983
        Due.same("3 lawful(999962, 357)", x.lawful(999962, 357), 0); // 999979 * 999983
        // These pass as whole by powers of 2, 3, 5, 7, or of the first few of them.
        Due.same("3 lawful(1, 373653)", x.lawful(1, 373653), 0);
        Due.same("3 lawful(25, 326001)", x.lawful(25, 326001), 0);
        Due.same("3 lawful(3215, 31751)", x.lawful(3215, 31751), 0);
        Due.same("3 lawful(0, 825265)", x.lawful(0, 825265), 0);
        x.force(1);
        Due.same("3 law 1 lawful(999966, 289)", x.lawful(999966, 289), 1);
        Due.same("3 law 1 lawful(1, 1)", x.lawful(1, 1), 1);
        Due.same("3 law 1 lawful(1, 3)", x.lawful(1, 3), 0);
        Due.same("3 law 1 a cube", x.lawful(1, 30301), 0); // 101 * 101 * 101
        Due.same("3 law 1 a great cube", x.lawful(991921, 850317), 0); // 9973 * 9973 * 9973
        x.force(2);
        Due.same("3 law 2 lawful(999999, 999998)", x.lawful(999999, 999998), 1);
        Due.same("3 law 2 lawful(999999, 999991)", x.lawful(999999, 999991), 1);
        Due.same("3 law 2 lawful(999999, 999989)", x.lawful(999999, 999989), 0);
        x.force(3);
        Due.same("3 law 3 lawful(1000, 7)", x.lawful(1000, 7), 1); // 1000000007 and 1000000009
        Due.same("3 law 3 lawful(1000, 9)", x.lawful(1000, 9), 1);
        Due.same("3 law 3 lawful(1000, 21)", x.lawful(1000, 21), 0); // whole, but stands alone
        int[][] bad = {{-1, 0}, {0, -1}, {1000000, 0}, {0, 1000000}, {Integer.MIN_VALUE, 5}, {5, Integer.MAX_VALUE}};
        for (int[] b : bad) {
            Due.same("3 lawful(" + b[0] + ", " + b[1] + ")", x.lawful(b[0], b[1]), LawfulSums.BAD);
        }
    }

    private static void part() {
        LawfulSums x = new LawfulSums();
        x.force(3);
        Due.same("4 part(0, 2)", x.part(0, 2), 2);
        Due.same("4 part(0, 3)", x.part(0, 3), 3);
        Due.same("4 part(0, 4)", x.part(0, 4), 2);
        Due.same("4 part(0, 25)", x.part(0, 25), 5);
        Due.same("4 part(0, 49)", x.part(0, 49), 7);
        Due.same("4 part(0, 91)", x.part(0, 91), 7);
        Due.same("4 part(0, 99999)", x.part(0, 99999), 3);
        Due.same("4 part(1, 1)", x.part(1, 1), 101);
        Due.same("4 part(999966, 289)", x.part(999966, 289), 999983);
        Due.same("4 part(999999, 999989)", x.part(999999, 999989), 999999999989L);
        Due.same("4 part(999999, 999999)", x.part(999999, 999999), 3);
        for (int hi = 900000; hi < 900050; hi++) {
            Due.same("4 part(" + hi + ", 7)", x.part(hi, 7), least(hi * 1000000L + 7));
        }
        int[][] bad = {{0, 0}, {0, 1}, {-1, 5}, {5, -1}, {1000000, 0}, {0, 1000000}};
        for (int[] b : bad) {
            Due.same("4 part(" + b[0] + ", " + b[1] + ")", x.part(b[0], b[1]), MIN);
        }
    }

    private static long least(long n) {
        for (long a = 2; a * a <= n; a++) {
            if (n % a == 0) {
                return a;
            }
        }
        return n;
    }

    private static void parts() {
        LawfulSums x = new LawfulSums();
        x.force(2);
        int[] of360 = {2, 2, 2, 3, 3, 5};
        Due.same("5 parts(360, -1)", x.parts(360, -1), 6);
        for (int i = 0; i < 6; i++) {
            Due.same("5 parts(360, " + i + ")", x.parts(360, i), of360[i]);
        }
        Due.same("5 parts(360, 6)", x.parts(360, 6), LawfulSums.BAD);
        Due.same("5 parts(360, -2)", x.parts(360, -2), LawfulSums.BAD);
        Due.same("5 parts(2^29, -1)", x.parts(1 << 29, -1), 29);
        Due.same("5 parts(2^29, 28)", x.parts(1 << 29, 28), 2);
        Due.same("5 parts(2^29, 29)", x.parts(1 << 29, 29), LawfulSums.BAD);
        Due.same("5 parts(2^29, MAX)", x.parts(1 << 29, Integer.MAX_VALUE), LawfulSums.BAD);
        Due.same("5 parts(31607 * 31607, 1)", x.parts(31607 * 31607, 1), 31607);
        Due.same("5 parts(999999937, 0)", x.parts(999999937, 0), 999999937);
        Due.same("5 parts(2 * 499999993, 1)", x.parts(2 * 499999993, 1), 499999993);
        Due.same("5 parts(1000000000, -1)", x.parts(1000000000, -1), 18);
        Due.same("5 parts(1, -1)", x.parts(1, -1), LawfulSums.BAD);
        Due.same("5 parts(0, -1)", x.parts(0, -1), LawfulSums.BAD);
        Due.same("5 parts(1000000001, -1)", x.parts(1000000001, -1), LawfulSums.BAD);
        Due.same("5 parts(2, -1)", x.parts(2, -1), 1);
    }

    private static void proof() {
        LawfulSums x = new LawfulSums();
        x.force(1);
        int[][] due = {{3, 2}, {5, 2}, {7, 3}, {11, 2}, {17, 3}, {23, 5}, {41, 6}, {71, 7}, {191, 19}, {409, 21},
            {65537, 3}, {999999937, 11}};
        for (int[] d : due) {
            Due.same("6 proof(" + d[0] + ")", x.proof(d[0]), d[1]);
        }
        for (int n : new int[] {4, 9, 15, 91, 561, 1000000000, 999999999}) {
            Due.same("6 proof(" + n + ")", x.proof(n), LawfulSums.NOT);
        }
        for (int n : new int[] {2, 1, 0, -7, 1000000001, 1000000007}) {
            Due.same("6 proof(" + n + ")", x.proof(n), LawfulSums.BAD);
        }
    }

    private static void look() {
        LawfulSums x = new LawfulSums();
        x.force(1);
        Due.same("7 look(3, 2)", x.look(3, 2), 1);
        int[] of13 = {2, 6, 7, 11};
        for (int g = 2; g < 13; g++) {
            int want = 0;
            for (int one : of13) {
                if (one == g) {
                    want = 1;
                }
            }
            Due.same("7 look(13, " + g + ")", x.look(13, g), want);
        }
        for (int g = 2; g < 91; g++) {
            Due.same("7 look(91, " + g + ")", x.look(91, g), 0);
        }
        Due.same("7 look(999999937, 11)", x.look(999999937, 11), 1);
        Due.same("7 look(999999937, 2)", x.look(999999937, 2), 0);
        Due.same("7 look(999999937, 999999936)", x.look(999999937, 999999936), 0);
        Due.same("7 look(561, 2)", x.look(561, 2), 0);
        int[][] bad = {{2, 2}, {2, 1}, {3, 1}, {3, 3}, {7, 0}, {7, -3}, {7, 7}, {1000000001, 5}, {-5, 2}};
        for (int[] b : bad) {
            Due.same("7 look(" + b[0] + ", " + b[1] + ")", x.look(b[0], b[1]), LawfulSums.BAD);
        }
    }
}
