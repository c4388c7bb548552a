/** Promises 18 to 24: sellers, rents, shares. */
public final class SellersTest {
    private static final int VOID = LawfulSums.VOID;

    public static void main(String[] args) {
        feed();
        texts();
        faults();
        opened();
        aFaultKeepsTheSeller();
        worth();
        lines();
        names();
        chosen();
        rent();
        tax();
        rounded();
        shares();
        Due.end("SellersTest");
    }

    private static void feed() {
        LawfulSums x = new LawfulSums();
        Due.same("18 feed(1, ..)", x.feed(1, 0x31323370), 1);
        Due.same("18 the lowest byte alone came", x.seller(), 1);
        Due.same("18 it is p", x.chosen(11, 11, 1), 11);
        Due.same("18 feed(4, ..)", x.feed(4, 0x31323370), 4); // p321: a name, then no number
        Due.same("18 the lowest byte first", x.seller(), -101);
        for (int n : new int[] {0, 5, -1, Integer.MIN_VALUE, Integer.MAX_VALUE}) {
            Due.same("18 feed(" + n + ", 0)", x.feed(n, 0), LawfulSums.BAD);
        }
        for (int i = 1; i <= 29; i++) {
            Due.same("18 feed", x.feed(4, -1), 4 * i);
        }
        Due.same("18 feed(3, ..)", x.feed(3, -1), 119);
        Due.same("18 feed(2, ..), full", x.feed(2, -1), LawfulSums.FULL);
        Due.same("18 bad ahead of full", x.feed(5, -1), LawfulSums.BAD);
        Due.same("18 count(3)", x.count(3), 119);
        Due.same("18 feed(1, ..)", x.feed(1, -1), 120);
        Due.same("18 feed(1, ..), full", x.feed(1, -1), LawfulSums.FULL);
        Due.same("18 count(3)", x.count(3), 120);
        Due.same("19 seller()", x.seller(), -100);
        Due.same("19 the tape is empty", x.count(3), 0);
    }

    private static void texts() {
        LawfulSums x = new LawfulSums();
        String[] right = {"p", "0", "9999", "p?g", "p;g", "p?g;n?t;h", "(p)", "!p", "-p", "p|g|n", "p&g&n", "p<g", "p=g", "p>g",
            "p+g-n", "p*g/n%t", "p<g|p>g&n=t", "(p<g)<n", "p--p", "p-1", "!-!-!-p", "((((((p))))))",
            "((((((p))))))+((((((g))))))", "-(-(-(p)))", "p*-g", "p*!g", "1234?5678;90", "p?0"};
        for (String text : right) {
            Due.same("19 " + text, Due.told(x, text), 1);
            Due.same("19 the tape is empty", x.count(3), 0);
        }
        StringBuilder full = new StringBuilder("p");
        for (int i = 0; i < 59; i++) {
            full.append("+p");
        }
        Due.same("19 119 bytes", Due.told(x, full.toString()), 1);
        Due.same("19 60 times p", x.chosen(3, 3, 1), 180);
        Due.same("19 120 bytes", Due.told(x, "-" + full), 1);
        Due.same("19 58 times p", x.chosen(3, 3, 1), 58 * 3);
        StringBuilder deep = new StringBuilder();
        for (int i = 0; i < 60; i++) {
            deep.append(i == 59 ? "0" : "0;");
        }
        Due.same("19 60 lines", Due.told(x, deep.toString()), 1);
        Due.same("19 the first counts", x.chosen(3, 3, 1), 0);
    }

    private static void faults() {
        LawfulSums x = new LawfulSums();
        String[] text = {"", "?", ";", "p;", "p?", "p?g?", "p??", "p|", "p||", "p<g<n", "p=g=n", "p>g=n", "(p", "(p?g)", "(p;g)",
            "p)", "()", "p p", " p", "p ", "12345", "1234p", "p1", "pp", "P", "p+", "p++p", "p+*p", "x", "p!p", "!", "-",
            "(p<g<n)", "p&|p", "p?g;", "p?;g", "p<", "(p)(p)", "p^p", "p~p", "~p", "1.5", "p\u00e9", "p\u0000", "p?1;g?2;!", "(p))"};
        int[] at = {0, 0, 0, 2, 2, 3, 2, 2, 2, 3, 3, 3, 2, 2, 2,
            1, 1, 1, 0, 1, 4, 4, 1, 1, 0, 2, 2, 2, 0, 1, 1, 1,
            4, 2, 4, 2, 2, 3, 1, 1, 0, 1, 1, 1, 9, 3};
        for (int i = 0; i < text.length; i++) {
            Due.same("19 " + text[i], Due.told(x, text[i]), -100 - at[i]);
            Due.same("19 the tape is empty", x.count(3), 0);
        }
    }

    private static void opened() {
        LawfulSums x = new LawfulSums();
        String[] signs = {"(", "!", "-"};
        for (String a : signs) {
            for (String b : signs) {
                String six = a + b + a + b + a + b;
                Due.same("19 " + six + " ends too early", Due.told(x, six), -106);
                for (String c : signs) {
                    Due.same("19 " + six + c, Due.told(x, six + c + "p"), -106);
                }
            }
        }
        Due.same("19 they end with their O", Due.told(x, "!!!!!!p+------g*!-!-!-n"), 1);
        Due.same("19 they end with their O, in (", Due.told(x, "(!!!!!p+-----g)"), 1);
        Due.same("19 but ( is open still", Due.told(x, "(!!!!!p+------g)"), -100 - 13);
        Due.same("19 - between two is none of them", Due.told(x, "((((((p-p))))))"), 1);
        Due.same("19 ahead of an O it is", Due.told(x, "((((((p--p))))))"), -100 - 8);
        Due.same("19 ! till its ) ends", Due.told(x, "!(!(!(!p)))"), -106);
    }

    private static void aFaultKeepsTheSeller() {
        LawfulSums x = new LawfulSums();
        Due.same("19 p*2", Due.told(x, "p*2"), 1);
        Due.same("19 a fault", Due.told(x, "7;8;x"), -104);
        Due.same("19 it stays", x.chosen(5, 5, 1), 10);
        Due.same("19 an empty tape", x.seller(), -100);
        Due.same("19 it stays", x.chosen(5, 5, 1), 10);
    }

    /** What a text brings at the price 97, with 90 as the lower end: g is 8, n 1, t 7, h 0. */
    private static void brings(LawfulSums x, String text, int want) {
        Due.same("20 " + text, Due.told(x, text), 1);
        Due.same("20 brings " + text, x.chosen(90, 100, 1), want);
        Due.same("20 the price", x.chosen(90, 100, 0), 97);
    }

    private static void worth() {
        LawfulSums x = new LawfulSums();
        String[] text = {"p", "-p", "!p", "!0", "!!p", "0|0", "0|5", "5|5", "5&5", "5&0", "0&0", "3<5", "5<3", "3<3", "3=3", "3=4",
            "5>3", "3>5", "3>3", "2+3*4", "(2+3)*4", "20/3", "-20/3", "20%3", "-20%3", "20/-3", "20%-3", "5/0", "5%0",
            "10-3-2", "2-3+4", "100/5/2", "100/5*2", "7%4*2", "-2*3", "!2+3", "-(2+3)", "!(2-2)", "1<2",
            "1|0&0", "(1|0)&0", "2&3<1", "1+1=2", "9999*9999", "9999*9999*9999", "-9999*9999*9999", "--5", "-!0", "!-5",
            "0=0|1", "3|0", "2*2<5&1", "0005", "0000", "p-g-n-t-h", "1-1?5;6", "0-1?5;6"};
        int[] want = {97, -97, 0, 1, 1, 0, 1, 1, 1, 0, 0, 1, 0, 0, 1, 0,
            1, 0, 0, 14, 20, 6, -6, 2, -2, -6, 2, 0, 0,
            5, 3, 10, 40, 6, -6, 3, -5, 1, 1,
            1, 0, 0, 1, 99980001, 9999 * 9999 * 9999, -9999 * 9999 * 9999, 5, -1, 0,
            1, 1, 1, 5, 0, 97 - 8 - 1 - 7, 6, 5};
        for (int i = 0; i < text.length; i++) {
            brings(x, text[i], want[i]);
        }
        // -2147483648 by -1 wraps, and leaves nothing.
        brings(x, "(-2048*1024*1024)/-1", Integer.MIN_VALUE);
        brings(x, "(-2048*1024*1024)%-1", 0);
        brings(x, "-(-2048*1024*1024)", Integer.MIN_VALUE);
        brings(x, "2048*1024*1024-1", Integer.MAX_VALUE);
    }

    private static void lines() {
        LawfulSums x = new LawfulSums();
        String[] text = {"0?5", "1?5", "0?5;6", "1?5;6", "0?5;0?6", "0?5;0?6;7", "5;6", "0;6", "0-3?5;6", "1?0;6", "p<90?1;p<100?2;3",
            "0?1;0?2;1?3;1?4", "0?p;g", "1?0|3", "1?((((((p))))))",
            "0?1;0?2;0?3;0?4;0?5;0?6;7", "0?5"};
        int[] want = {0, 5, 6, 5, 0, 7, 5, 0, 5, 0, 2, 3, 8, 1, 97, 7, 0};
        for (int i = 0; i < text.length; i++) {
            brings(x, text[i], want[i]);
        }
    }

    private static void names() {
        LawfulSums x = new LawfulSums();
        Due.told(x, "g");
        Due.same("20 g below the lower end", x.chosen(97, 97, 1), 8);
        Due.same("20 g at 2: none ahead", x.chosen(0, 2, 1), 0);
        Due.same("20 g at 3", x.chosen(3, 3, 1), 1);
        Due.same("20 g, the first of like ones", x.chosen(0, 30, 0), 29);
        Due.same("20 g, the first of like ones", x.chosen(0, 22, 0), 11);
        Due.told(x, "n");
        Due.same("20 n counts from the lower end", x.chosen(90, 110, 1), 5); // 97 101 103 107 109
        Due.same("20 n counts it, too", x.chosen(97, 97, 1), 1);
        Due.same("20 n", x.chosen(90, 110, 0), 109);
        Due.told(x, "t");
        Due.same("20 t", x.chosen(90, 110, 0), 109);
        Due.same("20 t", x.chosen(90, 110, 1), 9);
        Due.told(x, "h*1000-p");
        Due.same("20 h", x.chosen(90, 330, 0), 307);
        Due.same("20 h", x.chosen(90, 330, 1), 2693);
        Due.told(x, "h");
        int[][] cut = {{97, 0}, {101, 1}, {199, 1}, {307, 3}, {9973, 99}, {10007, 100}, {99989, 999}, {99991, 999}};
        for (int[] c : cut) {
            Due.same("20 h of " + c[0], x.chosen(c[0], c[0], 1), c[1]);
        }
        x.force(3);
        Due.told(x, "g");
        Due.same("20 g by the law in force", x.chosen(101, 101, 1), 28);
        Due.same("20 g by the law in force: none", x.chosen(3, 3, 1), 0);
    }

    private static void chosen() {
        LawfulSums x = new LawfulSums();
        Due.same("20 without a text: p", x.chosen(0, 100, 0), 97);
        Due.same("20 without a text: p", x.chosen(0, 100, 1), 97);
        Due.same("20 none", x.chosen(90, 96, 0), VOID);
        Due.same("20 none", x.chosen(0, 1, 1), VOID);
        Due.same("20 just 2000 apart", x.chosen(0, 2000, 0), 1999);
        Due.same("20 to the end", x.chosen(98000, 100000, 0), 99991);
        int[][] bad = {{0, 2001, 0}, {-1, 5, 0}, {5, 4, 0}, {99000, 100001, 0}, {0, 5, 2}, {0, 5, -1},
            {Integer.MIN_VALUE, Integer.MAX_VALUE, 0}, {Integer.MAX_VALUE, Integer.MIN_VALUE, 1}};
        for (int[] b : bad) {
            Due.same("20 chosen(" + b[0] + ", " + b[1] + ", " + b[2] + ")", x.chosen(b[0], b[1], b[2]), VOID);
        }
        Due.told(x, "0-p");
        Due.same("20 all below 0", x.chosen(8, 30, 0), 11);
        Due.same("20 all below 0", x.chosen(8, 30, 1), -11);
        Due.told(x, "7");
        Due.same("20 of like ones the first", x.chosen(24, 97, 0), 29);
        x.force(1);
        Due.same("20 by law 1", x.chosen(24, 97, 0), 25);
    }

    private static void rent() {
        LawfulSums x = new LawfulSums();
        int[][] due = {{2, 1, 3}, {10, 1, 11}, {10, 5, 23}, {100, 1, 113}, {97, 1, 107}, {2, 30, 311}, {10000, 30, 175493},
            {10000, 1, 11003}, {9, 1, 11}, {4, 1, 5}};
        for (int[] d : due) {
            Due.same("21 rent(" + d[0] + ", " + d[1] + ")", x.rent(d[0], d[1]), d[2]);
        }
        x.force(1);
        Due.same("21 law 1 rent(2, 1)", x.rent(2, 1), 4);
        Due.same("21 law 1 rent(2, 3)", x.rent(2, 3), 9);
        x.force(3);
        Due.same("21 law 3 rent(100, 10)", x.rent(100, 10), 461);
        int[][] bad = {{1, 1}, {10001, 1}, {-5, 5}, {2, 0}, {2, 31}, {2, -1}};
        for (int[] b : bad) {
            Due.same("21 rent(" + b[0] + ", " + b[1] + ")", x.rent(b[0], b[1]), LawfulSums.BAD);
        }
    }

    private static void tax() {
        LawfulSums x = new LawfulSums();
        int[][] due = {{0, -2}, {9, -2}, {19, -2}, {20, 2}, {29, 2}, {30, 3}, {1000, 97}, {979, 97}, {969, 89}, {1000000000, 99999989},
            {-1, -1}, {1000000001, -1}};
        for (int[] d : due) {
            Due.same("22 tax(" + d[0] + ")", x.tax(d[0]), d[1]);
        }
        x.force(1);
        Due.same("22 law 1 tax(39)", x.tax(39), -2);
        Due.same("22 law 1 tax(50)", x.tax(50), 4);
    }

    private static void rounded() {
        LawfulSums x = new LawfulSums();
        int[][] due = {{90, 1, 7}, {90, 0, 1}, {97, 1, 0}, {97, 0, 0}, {0, 1, 2}, {0, 0, -2}, {1, 0, -2}, {2, 0, 0},
            {1000000000, 1, 7}, {1000000000, 0, 63}, {-1, 1, -1}, {1000000001, 0, -1}, {5, 2, -1}, {5, -1, -1}};
        for (int[] d : due) {
            Due.same("23 rounded(" + d[0] + ", " + d[1] + ")", x.rounded(d[0], d[1]), d[2]);
        }
        x.force(3);
        Due.same("23 law 3 rounded(80, 1)", x.rounded(80, 1), 21);
        Due.same("23 law 3 rounded(80, 0)", x.rounded(80, 0), 7);
        Due.same("23 law 3 rounded(2, 0)", x.rounded(2, 0), -2);
    }

    private static void sharesAre(LawfulSums x, int n, int apart, int... row) {
        Due.same("24 shares(" + n + ", " + row.length + ", -1)", x.shares(n, row.length, -1), apart);
        for (int i = 0; i < row.length; i++) {
            Due.same("24 shares(" + n + ", " + row.length + ", " + i + ")", x.shares(n, row.length, i), row[i]);
        }
        Due.same("24 none such", x.shares(n, row.length, row.length), LawfulSums.BAD);
    }

    private static void shares() {
        LawfulSums x = new LawfulSums();
        sharesAre(x, 4, 0, 2, 2);
        sharesAre(x, 30, 4, 13, 17);
        sharesAre(x, 30, 15, 2, 11, 17);
        sharesAre(x, 9, 1, 2, 2, 2, 3);
        sharesAre(x, 8, 0, 2, 2, 2, 2);
        sharesAre(x, 600, 2, 149, 149, 151, 151);
        sharesAre(x, 24, 2, 5, 5, 7, 7);
        sharesAre(x, 7, 1, 2, 2, 3);
        // Other rows differ by as much, 7 7 13 in the first: the least share first.
        sharesAre(x, 27, 6, 5, 11, 11);
        sharesAre(x, 19, 5, 2, 3, 7, 7);
        sharesAre(x, 33, 11, 2, 5, 13, 13);
        sharesAre(x, 34, 6, 5, 7, 11, 11);
        for (int i = -1; i < 2; i++) {
            Due.same("24 shares(3, 2, " + i + ")", x.shares(3, 2, i), LawfulSums.NOT);
            Due.same("24 shares(1, 4, " + i + ")", x.shares(1, 4, i), LawfulSums.NOT);
        }
        Due.same("24 bad ahead of not", x.shares(3, 2, 2), LawfulSums.BAD);
        x.force(1);
        sharesAre(x, 40, 10, 15, 25);
        x.force(2);
        sharesAre(x, 300, 0, 100, 100, 100);
        sharesAre(x, 33, 3, 9, 12, 12);
        sharesAre(x, 45, 3, 9, 12, 12, 12);
        int[][] bad = {{0, 2, -1}, {601, 2, -1}, {4, 1, -1}, {4, 5, -1}, {4, 2, -2}, {4, 2, 2}, {4, 2, Integer.MIN_VALUE}};
        for (int[] b : bad) {
            Due.same("24 shares(" + b[0] + ", " + b[1] + ", " + b[2] + ")", x.shares(b[0], b[1], b[2]), LawfulSums.BAD);
        }
    }
}
