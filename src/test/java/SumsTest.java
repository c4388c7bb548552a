/** Promises 8 to 17: sums. */
public final class SumsTest {
    public static void main(String[] args) {
        fewest();
        counted();
        coin();
        mint();
        coins();
        coinsOfManyKinds();
        change();
        third();
        next();
        nextByOtherLaws();
        many();
        gap();
        Due.end("SumsTest");
    }

    private static void fewestIs(LawfulSums x, int n, int... row) {
        Due.same("8 fewest(" + n + ", -1)", x.fewest(n, -1), row.length);
        for (int i = 0; i < row.length; i++) {
            Due.same("8 fewest(" + n + ", " + i + ")", x.fewest(n, i), row[i]);
        }
        Due.same("8 fewest(" + n + ", " + row.length + ")", x.fewest(n, row.length), LawfulSums.BAD);
        Due.same("8 fewest(" + n + ", 9)", x.fewest(n, 9), LawfulSums.BAD);
    }

    private static void fewest() {
        LawfulSums x = new LawfulSums();
        fewestIs(x, 2, 2);
        fewestIs(x, 4, 2, 2);
        fewestIs(x, 27, 23, 2, 2);
        fewestIs(x, 10, 7, 3);
        fewestIs(x, 2000, 1997, 3);
        fewestIs(x, 1999, 1999);
        x.force(1);
        fewestIs(x, 20, 14, 6);
        fewestIs(x, 17, 9, 4, 4);
        x.force(2);
        fewestIs(x, 11, 7, 4);
        x.force(3);
        fewestIs(x, 9, 3, 3, 3);
        fewestIs(x, 6, 3, 3);
        int[][] not = {{0, 1}, {1, 1}, {1, 2}, {1, 3}, {1, 5}, {1, 7}, {1, 11}, {2, 2}, {2, 3}, {3, 1}, {3, 2}, {3, 4}};
        for (int[] o : not) {
            x.force(o[0]);
            for (int i : new int[] {-1, 0, 1, 8, 100, Integer.MAX_VALUE}) {
                Due.same("8 law " + o[0] + " fewest(" + o[1] + ", " + i + ")", x.fewest(o[1], i), LawfulSums.NOT);
            }
        }
        int[][] bad = {{0, -1}, {-1, 0}, {2001, -1}, {2, -2}, {10, Integer.MIN_VALUE}, {Integer.MAX_VALUE, 0}};
        for (int[] b : bad) {
            Due.same("8 fewest(" + b[0] + ", " + b[1] + ")", x.fewest(b[0], b[1]), LawfulSums.BAD);
        }
    }

    private static void counted() {
        LawfulSums x = new LawfulSums();
        Due.same("9 counted(20, 2)", x.counted(20, 2), 2); // 3 17, 7 13
        Due.same("9 counted(4, 2)", x.counted(4, 2), 1);
        Due.same("9 counted(10, 3)", x.counted(10, 3), 1); // 2 3 5
        Due.same("9 counted(12, 3)", x.counted(12, 3), 2); // 2 3 7, 2 5 5
        Due.same("9 counted(10, 5)", x.counted(10, 5), 1);
        Due.same("9 counted(9, 4)", x.counted(9, 4), 1); // 2 2 2 3
        Due.same("9 counted(7, 1)", x.counted(7, 1), 1);
        Due.same("9 counted(8, 1)", x.counted(8, 1), 0);
        Due.same("9 counted(400, 5)", x.counted(400, 5), 2192);
        for (int k = 1; k <= 5; k++) {
            Due.same("9 counted(0, " + k + ")", x.counted(0, k), 0);
            Due.same("9 counted(1, " + k + ")", x.counted(1, k), 0);
        }
        x.force(1);
        Due.same("9 law 1 counted(20, 2)", x.counted(20, 2), 2); // 6 14, 10 10
        x.force(3);
        Due.same("9 law 3 counted(20, 2)", x.counted(20, 2), 2); // 3 17, 7 13
        Due.same("9 law 3 counted(4, 2)", x.counted(4, 2), 0);
        int[][] bad = {{-1, 1}, {401, 1}, {5, 0}, {5, 6}, {5, -1}, {Integer.MIN_VALUE, 2}};
        for (int[] b : bad) {
            Due.same("9 counted(" + b[0] + ", " + b[1] + ")", x.counted(b[0], b[1]), LawfulSums.BAD);
        }
    }

    private static void coin() {
        LawfulSums x = new LawfulSums();
        int[][] bad = {{0, 1}, {1000, 1}, {-5, 1}, {5, -1}, {5, 10}};
        for (int i = 0; i < 16; i++) {
            for (int[] b : bad) {
                Due.same("10 coin(" + b[0] + ", " + b[1] + ")", x.coin(b[0], b[1]), LawfulSums.BAD);
            }
            Due.same("10 count(1)", x.count(1), i);
            Due.same("10 coin the " + i + "th", x.coin(i == 0 ? 1 : i == 1 ? 999 : 5, i % 10), i);
        }
        Due.same("10 coin, full", x.coin(5, 1), LawfulSums.FULL);
        Due.same("10 coin, bad ahead of full", x.coin(0, 1), LawfulSums.BAD);
        Due.same("10 count(1)", x.count(1), 16);
        Due.same("10 a coin is no change", x.count(4), 0);
        Due.same("10 undo()", x.undo(), LawfulSums.STATE);
    }

    private static void mint() {
        LawfulSums x = new LawfulSums();
        Due.same("11 mint, no coin", x.mint(0, 0, 5), LawfulSums.BAD);
        x.coin(7, 2);
        x.coin(999, 9);
        Due.same("11 mint(0, 0, 5)", x.mint(0, 0, 5), 7);
        Due.same("11 mint(0, 1, 0)", x.mint(0, 1, 0), 2);
        Due.same("11 mint(1, 0, 1)", x.mint(1, 0, 1), 999);
        Due.same("11 mint(1, 1, 4)", x.mint(1, 1, 4), 9);
        Due.same("11 mint again", x.mint(1, 1, 4), 4);
        Due.same("11 changes", x.count(4), 4);
        int[][] bad = {{-1, 0, 5}, {2, 0, 5}, {0, 2, 5}, {0, -1, 5}, {0, 0, 0}, {0, 0, 1000}, {0, 1, -1}, {0, 1, 10}};
        for (int[] b : bad) {
            Due.same("11 mint(" + b[0] + ", " + b[1] + ", " + b[2] + ")", x.mint(b[0], b[1], b[2]), LawfulSums.BAD);
        }
        Due.same("11 undo()", x.undo(), 3);
        Due.same("11 mint(1, 1, 9)", x.mint(1, 1, 9), 9);
        Due.same("11 redo stays: no other number came", x.redo(), 0);
        Due.same("11 mint(1, 1, 9)", x.mint(1, 1, 9), 4);
    }

    private static void coinsAre(LawfulSums x, int n, int inAll, int... row) {
        Due.same("12 coins(" + n + ", -1)", x.coins(n, -1), inAll);
        for (int i = 0; i < row.length; i++) {
            Due.same("12 coins(" + n + ", " + i + ")", x.coins(n, i), row[i]);
        }
    }

    private static void coins() {
        LawfulSums x = new LawfulSums();
        Due.same("12 no coin: coins(0, -1)", x.coins(0, -1), 0);
        Due.same("12 no coin: coins(0, 0)", x.coins(0, 0), LawfulSums.BAD);
        Due.same("12 no coin: coins(5, -1)", x.coins(5, -1), LawfulSums.NOT);
        Due.same("12 no coin: bad ahead of not", x.coins(5, 0), LawfulSums.BAD);
        x.coin(3, 9);
        x.coin(7, 9);
        x.coin(5, 9);
        x.coin(6, 9);
        coinsAre(x, 10, 2, 1, 1, 0, 0);
        coinsAre(x, 12, 2, 0, 1, 1, 0);
        coinsAre(x, 6, 2, 2, 0, 0, 0);
        coinsAre(x, 0, 0, 0, 0, 0, 0);
        coinsAre(x, 135, 27, 9, 9, 9, 0);
        coinsAre(x, 136, LawfulSums.NOT, LawfulSums.NOT);
        Due.same("12 coins(4, -1)", x.coins(4, -1), LawfulSums.NOT);
        x.mint(0, 1, 0);
        coinsAre(x, 10, 2, 0, 0, 2, 0);
        x.force(1);
        coinsAre(x, 12, 2, 0, 0, 0, 2);
        coinsAre(x, 10, LawfulSums.NOT, LawfulSums.NOT);
        int[][] bad = {{-1, -1}, {2001, -1}, {5, -2}, {5, 4}, {5, 16}, {5, Integer.MAX_VALUE}};
        for (int[] b : bad) {
            Due.same("12 coins(" + b[0] + ", " + b[1] + ")", x.coins(b[0], b[1]), LawfulSums.BAD);
        }
    }

    private static void coinsOfManyKinds() {
        LawfulSums x = new LawfulSums();
        x.coin(2, 9);
        x.coin(2, 9);
        for (int i = 0; i < 14; i++) {
            x.coin(2, 0);
        }
        coinsAre(x, 24, 12, 9, 3, 0);
        coinsAre(x, 36, 18, 9, 9, 0);
        coinsAre(x, 38, LawfulSums.NOT, LawfulSums.NOT);
        x.mint(15, 0, 997);
        x.mint(15, 1, 2);
        Due.same("12 coins(1998, -1)", x.coins(1998, -1), 4);
        Due.same("12 coins(1998, 15)", x.coins(1998, 15), 2);
        Due.same("12 coins(2000, 0)", x.coins(2000, 0), 3);
        x.undo();
        Due.same("12 a number undone", x.coins(1998, -1), LawfulSums.NOT);
        x.redo();
        Due.same("12 a number done again", x.coins(1998, -1), 4);
    }

    private static void change() {
        LawfulSums x = new LawfulSums();
        int[][] due = {{1, 2}, {2, 3}, {3, 2}, {4, 3}, {5, 2}, {6, 5}, {7, -2}, {9, 2}, {13, -2}, {2000, 3}};
        for (int[] d : due) {
            Due.same("13 change(" + d[0] + ")", x.change(d[0]), d[1]);
        }
        x.force(1);
        Due.same("13 law 1 change(1)", x.change(1), 9); // 10 less 9
        Due.same("13 law 1 change(2)", x.change(2), 4); // 6 less 4
        x.force(3);
        Due.same("13 law 3 change(1)", x.change(1), -2);
        Due.same("13 law 3 change(2)", x.change(2), 3);
        Due.same("13 law 3 change(484)", x.change(484), 1303);
        Due.same("13 law 3, 2269 is too much to give back", x.change(1402), -2);
        Due.same("13 change(0)", x.change(0), LawfulSums.BAD);
        Due.same("13 change(2001)", x.change(2001), LawfulSums.BAD);
        Due.same("13 change(-1)", x.change(-1), LawfulSums.BAD);
    }

    private static void third() {
        LawfulSums x = new LawfulSums();
        int[][] due = {{1, -2}, {2, -2}, {3, -2}, {4, 2}, {5, 2}, {6, 3}, {7, 2}, {8, 3}, {11, -2}, {100, 47}, {9, 2},
            {100000, 49877}, {99999, -2}, {0, -1}, {-4, -1}, {100001, -1}};
        for (int[] d : due) {
            Due.same("14 third(" + d[0] + ")", x.third(d[0]), d[1]);
        }
        x.force(1);
        Due.same("14 law 1 third(100)", x.third(100), 49);
        Due.same("14 law 1 third(8)", x.third(8), 4);
        x.force(2);
        Due.same("14 law 2 third(11)", x.third(11), 5); // 5 and 6
    }

    private static void next() {
        LawfulSums x = new LawfulSums();
        int[][] due = {{0, 2, -2, 2}, {1, 2, -2, 2}, {2, 2, 2, 2}, {4, 5, 3, 3}, {9, 11, 7, 7}, {90, 97, 89, 89},
            {93, 97, 89, 89}, {94, 97, 89, 97}, {97, 97, 97, 97}, {1000000000, 1000000007, 999999937, 1000000007},
            {99999, 100003, 99991, 100003}, {100001, 100003, 99991, 100003}, {999999937, 999999937, 999999937, 999999937}};
        for (int[] d : due) {
            for (int what = 0; what < 3; what++) {
                Due.same("15 next(" + d[0] + ", " + what + ")", x.next(d[0], what), d[what + 1]);
            }
        }
        int[][] bad = {{-1, 0}, {1000000001, 0}, {5, -1}, {5, 3}, {Integer.MIN_VALUE, 1}, {Integer.MAX_VALUE, 2}};
        for (int[] b : bad) {
            Due.same("15 next(" + b[0] + ", " + b[1] + ")", x.next(b[0], b[1]), LawfulSums.BAD);
        }
    }

    private static void nextByOtherLaws() {
        LawfulSums x = new LawfulSums();
        x.force(1);
        Due.same("15 law 1 next(0, 0)", x.next(0, 0), 4);
        Due.same("15 law 1 next(3, 1)", x.next(3, 1), -2);
        Due.same("15 law 1 next(12, 2)", x.next(12, 2), 10); // 10 and 14 are as near
        x.force(2);
        Due.same("15 law 2 next(3, 2)", x.next(3, 2), 4);
        Due.same("15 law 2 next(11, 2)", x.next(11, 2), 10);
        x.force(3);
        Due.same("15 law 3 next(0, 2)", x.next(0, 2), 3);
        Due.same("15 law 3 next(2, 1)", x.next(2, 1), -2);
        Due.same("15 law 3 next(74, 0)", x.next(74, 0), 101);
        Due.same("15 law 3 next(100, 1)", x.next(100, 1), 73);
        Due.same("15 law 3 next(87, 2)", x.next(87, 2), 73);
        Due.same("15 law 3 next(1000000000, 0)", x.next(1000000000, 0), 1000000007);
    }

    private static void many() {
        LawfulSums x = new LawfulSums();
        int[][] due = {{0, 0, 0}, {0, 1, 0}, {0, 2, 1}, {2, 2, 1}, {2, 3, 2}, {0, 1000, 168}, {0, 100000, 9592},
            {99991, 99991, 1}, {99992, 100000, 0}, {100000, 100000, 0}, {90, 96, 0}};
        for (int[] d : due) {
            Due.same("16 many(" + d[0] + ", " + d[1] + ")", x.many(d[0], d[1]), d[2]);
        }
        x.force(1);
        Due.same("16 law 1 many(0, 100)", x.many(0, 100), 34);
        Due.same("16 law 1 many(0, 100000)", x.many(0, 100000), 23378);
        x.force(2);
        Due.same("16 law 2 many(99990, 100000)", x.many(99990, 100000), 8); // six even ones, 99991 and 99993
        x.force(3);
        Due.same("16 law 3 many(0, 1000)", x.many(0, 1000), 69);
        int[][] bad = {{-1, 5}, {5, 4}, {0, 100001}, {100001, 100001}, {Integer.MIN_VALUE, Integer.MAX_VALUE}};
        for (int[] b : bad) {
            Due.same("16 many(" + b[0] + ", " + b[1] + ")", x.many(b[0], b[1]), LawfulSums.BAD);
        }
    }

    private static void gap() {
        LawfulSums x = new LawfulSums();
        int[][] due = {{0, 1000, 20, 887}, {2, 3, 1, 2}, {3, 13, 4, 7}, {0, 2, -2, -2}, {8, 10, -2, -2}, {7, 11, 4, 7},
            {8, 11, -2, -2}, {0, 0, -2, -2}, {89, 97, 8, 89}, {0, 100, 8, 89}, {0, 24, 4, 7}, {0, 100000, 72, 31397}};
        for (int[] d : due) {
            Due.same("17 gap(" + d[0] + ", " + d[1] + ", 0)", x.gap(d[0], d[1], 0), d[2]);
            Due.same("17 gap(" + d[0] + ", " + d[1] + ", 1)", x.gap(d[0], d[1], 1), d[3]);
        }
        x.force(3);
        Due.same("17 law 3 gap(0, 200, 0)", x.gap(0, 200, 0), 28); // behind 73, 109 and 151
        Due.same("17 law 3 gap(0, 200, 1)", x.gap(0, 200, 1), 73);
        int[][] bad = {{-1, 5, 0}, {5, 4, 0}, {0, 100001, 1}, {0, 5, 2}, {0, 5, -1}};
        for (int[] b : bad) {
            Due.same("17 gap(" + b[0] + ", " + b[1] + ", " + b[2] + ")", x.gap(b[0], b[1], b[2]), LawfulSums.BAD);
        }
    }
}
