/** Promises 25 to 33: debts. */
public final class DebtsTest {
    private static final int VOID = LawfulSums.VOID;

    public static void main(String[] args) {
        debt();
        owes();
        judge();
        round();
        roundsOfLikeOnes();
        manyRounds();
        struck();
        settle();
        looked();
        lookedRefuses();
        undoAndRedo();
        fortyChanges();
        Due.end("DebtsTest");
    }

    private static void debt() {
        LawfulSums x = new LawfulSums();
        Due.same("25 debt(1, 9999)", x.debt(1, 9999), 0);
        Due.same("25 debt(1, 5)", x.debt(1, 5), 9999);
        Due.same("25 debt(10, 6)", x.debt(10, 6), 0);
        Due.same("25 debt(76, 1)", x.debt(76, 1), 0);
        Due.same("25 debt(1, 0)", x.debt(1, 0), 5);
        Due.same("25 count(2)", x.count(2), 2);
        Due.same("25 changes", x.count(4), 5);
        Due.same("25 the same again", x.debt(10, 6), 6);
        Due.same("25 is no change", x.count(4), 5);
        int[][] bad = {{0, 5}, {11, 5}, {77, 5}, {8, 5}, {80, 5}, {78, 5}, {87, 5}, {-1, 5}, {-12, 5}, {100, 5}, {1, -1}, {1, 10000},
            {Integer.MIN_VALUE, 5}, {Integer.MAX_VALUE, 5}};
        for (int[] b : bad) {
            Due.same("25 debt(" + b[0] + ", " + b[1] + ")", x.debt(b[0], b[1]), LawfulSums.BAD);
        }
        Due.same("25 bad changes nothing", x.count(4), 5);
    }

    private static void owes() {
        LawfulSums x = new LawfulSums();
        x.debt(1, 10);
        x.debt(71, 3);
        x.debt(17, 2);
        Due.same("26 owes(1)", x.owes(1), 10);
        Due.same("26 owes(10)", x.owes(10), 0);
        Due.same("26 owes(71)", x.owes(71), 3);
        Due.same("26 owes(-1)", x.owes(-1), -10);
        Due.same("26 owes(-2)", x.owes(-2), 11);
        Due.same("26 owes(-3)", x.owes(-3), 0);
        Due.same("26 owes(-8)", x.owes(-8), -1);
        for (int ab = 1; ab < 77; ab++) {
            if (ab / 10 != ab % 10 && ab % 10 < 8) {
                x.debt(ab, 100 + ab);
            }
        }
        for (int ab = 1; ab < 77; ab++) {
            if (ab / 10 != ab % 10 && ab % 10 < 8) {
                Due.same("26 owes(" + ab + ")", x.owes(ab), 100 + ab);
            }
        }
        for (int ab : new int[] {0, 11, 77, 8, 80, 78, 99, 100, -9, -10, -12, Integer.MIN_VALUE, Integer.MAX_VALUE}) {
            Due.same("26 owes(" + ab + ")", x.owes(ab), VOID);
        }
    }

    private static void judge() {
        LawfulSums x = new LawfulSums();
        x.coin(4, 4);
        Due.same("27 a coin is no debt", x.judge(), LawfulSums.NOT);
        Due.same("29 a coin is no debt", x.struck(), 0);
        x.debt(76, 1);
        Due.same("27 judge()", x.judge(), 76);
        x.debt(20, 4);
        Due.same("27 the one who owes first", x.judge(), 20);
        x.debt(7, 9);
        Due.same("27 the one who owes first", x.judge(), 7);
        x.debt(3, 6);
        Due.same("27 then the other", x.judge(), 3);
        x.debt(1, 97);
        Due.same("27 a lawful one is passed", x.judge(), 3);
        x.force(1);
        Due.same("27 by law 1", x.judge(), 1);
        x.debt(1, 0);
        Due.same("27 by law 1", x.judge(), 76);
    }

    private static void sixDebts(LawfulSums x) {
        x.debt(1, 10);
        x.debt(12, 7);
        x.debt(20, 8);
        x.debt(34, 97);
        x.debt(45, 50);
        x.debt(53, 60);
    }

    private static void round() {
        LawfulSums x = new LawfulSums();
        sixDebts(x);
        Due.same("28 round()", x.round(), 2);
        int[][] left = {{1, 3}, {12, 0}, {20, 1}, {34, 47}, {45, 0}, {53, 10}};
        for (int[] l : left) {
            Due.same("28 owes(" + l[0] + ")", x.owes(l[0]), l[1]);
        }
        Due.same("28 changes", x.count(4), 12);
        Due.same("28 none more", x.round(), 0);
        Due.same("28 the last change is the third's, 2 to 0", x.undo(), 11);
        Due.same("28 owes(20)", x.owes(20), 8);
        Due.same("28 owes(12)", x.owes(12), 0);
        Due.same("28 then 1 to 2", x.undo(), 10);
        Due.same("28 owes(12)", x.owes(12), 7);
        x.undo();
        Due.same("28 then 0 to 1", x.owes(1), 10);
        Due.same("28 the greater round came first", x.owes(34), 47);
        LawfulSums y = new LawfulSums();
        y.debt(1, 5);
        y.debt(10, 5);
        Due.same("28 two make no round", y.round(), 0);
        y.debt(2, 3);
        y.debt(21, 3);
        Due.same("28 0 to 2, 2 to 1, 1 to 0", y.round(), 1);
        Due.same("28 owes(10)", y.owes(10), 2);
        Due.same("28 owes(1)", y.owes(1), 5);
    }

    private static void roundsOfLikeOnes() {
        LawfulSums x = new LawfulSums();
        // 0 1 2 and 0 1 3 share what 0 owes 1: the first by a, b, c takes it all.
        x.debt(1, 4);
        x.debt(12, 4);
        x.debt(20, 9);
        x.debt(13, 4);
        x.debt(30, 9);
        Due.same("28 like ones", x.round(), 1);
        Due.same("28 owes(20)", x.owes(20), 5);
        Due.same("28 owes(30)", x.owes(30), 9);
        Due.same("28 owes(12)", x.owes(12), 0);
        Due.same("28 owes(13)", x.owes(13), 4);
        x.debt(1, 1);
        x.debt(12, 1);
        Due.same("28 a round of 1", x.round(), 1);
        Due.same("28 owes(1)", x.owes(1), 0);
        Due.same("28 owes(20)", x.owes(20), 4);
        LawfulSums y = new LawfulSums();
        y.debt(12, 5);
        y.debt(20, 5);
        y.debt(1, 5);
        Due.same("28 a is the least of the three", y.round(), 1);
        y.undo();
        Due.same("28 so 2 to 0 came last", y.owes(20), 5);
        y.undo();
        Due.same("28 and 1 to 2 ahead of it", y.owes(12), 5);
        Due.same("28 0 to 1 came first", y.owes(1), 0);
    }

    /** 0 and 1, 2 and 3, 4 and 5 owe each other as many rounds as there are people behind them, by one each. */
    private static void manyRounds() {
        LawfulSums x = new LawfulSums();
        int calls = 0;
        for (int a = 0; a < 8; a++) {
            for (int b = 0; b < 8; b++) {
                boolean couple = a / 2 == b / 2;
                if (a != b) {
                    x.debt(10 * a + b, couple ? 6 - a / 2 * 2 : 1);
                    calls += couple && a > 5 ? 0 : 1;
                }
            }
        }
        Due.same("25 debts", x.count(2), calls);
        Due.same("28 again and again till there is none", x.round(), 24);
        Due.same("28 in deed", x.count(2), 0);
        Due.same("28 of 72 changes 40 are kept", x.count(4), 40);
        for (int left = 39; left >= 0; left--) {
            Due.same("32 undo()", x.undo(), left);
        }
        Due.same("32 undo()", x.undo(), LawfulSums.STATE);
        // Ten rounds and two of the three changes of 0 6 1 are not among the 40.
        int[][] left = {{1, 0}, {10, 2}, {5, 0}, {51, 0}, {6, 0}, {61, 0}, {7, 1}, {71, 1}, {23, 4}, {32, 4}, {45, 2}, {57, 1}};
        for (int[] l : left) {
            Due.same("32 owes(" + l[0] + ") behind 40 undone", x.owes(l[0]), l[1]);
        }
        for (int more = 39; more >= 0; more--) {
            Due.same("33 redo()", x.redo(), more);
        }
        Due.same("33 redo()", x.redo(), LawfulSums.STATE);
        Due.same("33 all are done again", x.count(2), 0);
    }

    private static void struck() {
        LawfulSums x = new LawfulSums();
        x.debt(1, 10);
        x.debt(12, 7);
        x.debt(20, 90);
        Due.same("29 struck()", x.struck(), 8);
        Due.same("29 in thought", x.owes(1), 10);
        Due.same("29 no change", x.count(4), 3);
        x.debt(76, 9999);
        Due.same("29 above 9999", x.struck(), 16);
        x.force(3);
        Due.same("29 law 3", x.struck(), 20); // 1, 0, 11, 8;
        x.debt(31, 1);
        Due.same("29 law 3, from 1 to 3", x.struck(), 22);
    }

    private static void settle() {
        LawfulSums x = new LawfulSums();
        sixDebts(x);
        Due.same("30 settle(0)", x.settle(0), 4); // 37, 10, 2, 1
        Due.same("30 settle(1)", x.settle(1), 2);
        Due.same("30 in thought", x.owes(34), 97);
        Due.same("30 settle(2)", x.settle(2), LawfulSums.BAD);
        Due.same("30 settle(-1)", x.settle(-1), LawfulSums.BAD);
        LawfulSums y = new LawfulSums();
        y.debt(1, 5);
        y.debt(10, 5);
        Due.same("30 like debts", y.settle(0), 0);
        y.debt(23, 7);
        Due.same("30 settle(0)", y.settle(0), 1);
        Due.same("30 settle(1)", y.settle(1), 1);
        // 0 and 1 owe 6 each, 2 is owed 8, 3 4: 0 pays 2 first (6), then 1 pays 3 (4) and 2 (2).
        LawfulSums z = new LawfulSums();
        z.debt(2, 6);
        z.debt(12, 2);
        z.debt(13, 4);
        Due.same("30 settle(0)", z.settle(0), 3);
        Due.same("30 settle(1)", z.settle(1), 1);
        z.force(1);
        Due.same("30 law 1 settle(1)", z.settle(1), 2);
    }

    private static void looked() {
        LawfulSums x = new LawfulSums();
        x.row(0, 3, 4);
        long[] row = {5, 7, 23, 999999999989L};
        for (int i = 0; i < 4; i++) {
            x.put(0, i, row[i]);
        }
        Due.same("31 looked(0, 0, 4)", x.looked(0, 0, 4), 4);
        Due.same("31 looked(0, 1, 2)", x.looked(0, 1, 2), 3);
        Due.same("31 looked(0, 2, 3)", x.looked(0, 2, 3), -13);
        x.put(0, 2, 1);
        Due.same("31 looked(0, 0, 4)", x.looked(0, 0, 4), 2);
        Due.same("31 the place is ahead of the end", x.looked(0, 2, 60), 2);
        Due.same("31 looked(0, 0, 2)", x.looked(0, 0, 2), 2);
        Due.same("31 the row ends", x.looked(0, 3, 2), -13);
        x.force(2);
        long[] odd = {1000000000000L, 1000000000001L, 1000000000002L, -4, Long.MIN_VALUE, Long.MAX_VALUE, 0, 1};
        for (long v : odd) {
            x.put(0, 0, v);
            Due.same("31 law 2 looks at " + v, x.looked(0, 0, 1), v == 1000000000000L ? 1 : 0);
        }
        x.force(0);
        x.put(0, 0, 1000000000039L); // whole, but above 10^12
        Due.same("31 above 10^12", x.looked(0, 0, 1), 0);
    }

    private static void lookedRefuses() {
        LawfulSums x = new LawfulSums();
        Due.same("31 nothing", x.looked(0, 0, 1), -11);
        Due.same("31 nothing ahead of the place", x.looked(0, -1, 1), -11);
        x.body(0);
        x.keep(0, 0);
        Due.same("31 a payment", x.looked(0, 0, 1), -12);
        for (int sort = 0; sort < 5; sort++) {
            x.row(1, sort, 2);
            Due.same("31 sort " + sort, x.looked(1, 5, 1), sort == 3 ? -13 : -12);
            x.row(1, sort, 0);
            Due.same("31 an empty row of sort " + sort, x.looked(1, 0, 1), sort == 3 ? -13 : -12);
        }
        x.row(2, 3, 60);
        for (int i : new int[] {-1, 60, 61, Integer.MIN_VALUE, Integer.MAX_VALUE}) {
            Due.same("31 looked(2, " + i + ", 60)", x.looked(2, i, 60), -13);
        }
        Due.same("31 looked(2, 59, 1)", x.looked(2, 59, 1), 59);
        int[][] bad = {{-1, 0, 1}, {6, 0, 1}, {2, 0, 0}, {2, 0, 61}, {2, 0, -5}};
        for (int[] b : bad) {
            Due.same("31 looked(" + b[0] + ", " + b[1] + ", " + b[2] + ")", x.looked(b[0], b[1], b[2]), LawfulSums.BAD);
        }
    }

    private static void undoAndRedo() {
        LawfulSums x = new LawfulSums();
        Due.same("32 undo()", x.undo(), LawfulSums.STATE);
        Due.same("33 redo()", x.redo(), LawfulSums.STATE);
        x.debt(1, 5);
        x.coin(7, 3);
        x.mint(0, 0, 11);
        x.mint(0, 1, 4);
        x.debt(1, 6);
        Due.same("32 undo()", x.undo(), 3);
        Due.same("32 owes(1)", x.owes(1), 5);
        Due.same("32 undo()", x.undo(), 2);
        Due.same("32 undo()", x.undo(), 1);
        Due.same("32 undo()", x.undo(), 0);
        Due.same("32 owes(1)", x.owes(1), 0);
        Due.same("32 undo()", x.undo(), LawfulSums.STATE);
        Due.same("32 count(4)", x.count(4), 0);
        Due.same("33 redo()", x.redo(), 3);
        Due.same("33 owes(1)", x.owes(1), 5);
        Due.same("33 redo()", x.redo(), 2);
        Due.same("33 the worth", x.mint(0, 0, 11), 11);
        Due.same("33 redo()", x.redo(), 1);
        Due.same("33 the number", x.mint(0, 1, 4), 4);
        Due.same("33 bad changes nothing", x.debt(0, 4), LawfulSums.BAD);
        x.coin(5, 5);
        Due.same("33 redo()", x.redo(), 0);
        Due.same("33 owes(1)", x.owes(1), 6);
        Due.same("33 redo()", x.redo(), LawfulSums.STATE);
        Due.same("33 undo()", x.undo(), 3);
        x.debt(2, 5);
        Due.same("33 another change came behind", x.redo(), LawfulSums.STATE);
        Due.same("32 count(4)", x.count(4), 4);
    }

    private static void fortyChanges() {
        LawfulSums x = new LawfulSums();
        for (int v = 1; v <= 100; v++) {
            x.debt(1, v);
            Due.same("32 count(4)", x.count(4), Math.min(v, 40));
        }
        for (int left = 39; left >= 0; left--) {
            Due.same("32 undo()", x.undo(), left);
            Due.same("32 owes(1)", x.owes(1), 60 + left);
        }
        Due.same("32 undo()", x.undo(), LawfulSums.STATE);
        for (int left = 39; left >= 20; left--) {
            Due.same("33 redo()", x.redo(), left);
        }
        Due.same("33 owes(1)", x.owes(1), 80);
        for (int v = 1; v <= 30; v++) {
            x.debt(2, v);
        }
        Due.same("32 count(4)", x.count(4), 40);
        Due.same("33 redo()", x.redo(), LawfulSums.STATE);
        for (int i = 0; i < 40; i++) {
            x.undo();
        }
        Due.same("32 owes(2)", x.owes(2), 0);
        Due.same("32 owes(1)", x.owes(1), 70);
    }
}
