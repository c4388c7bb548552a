/** All that can be seen of an object by calls, in three ways since each of them uses the object up. */
final class Seen {
    static final int WAYS = 3;
    /** A number whose lowest bits differ for each sort of row. */
    private static final long TELLS_SORTS = (1L << 33) + (1L << 17) + 300;
    private static final int[] LENGTHS = {0, 1, 2, 3, 4, 5, 6, 8, 10, 59, 60};

    private final LawfulSums x;
    private final StringBuilder seen = new StringBuilder();
    private int left;

    private Seen(LawfulSums x, int left) {
        this.x = x;
        this.left = left;
    }

    /** What is seen in so many calls at most. */
    static String of(LawfulSums x, int way, int calls) {
        Seen s = new Seen(x, calls);
        switch (way) {
            case 0: s.asItStands(); break;
            case 1: s.undone(); break;
            default: s.doneAgain();
        }
        Due.holds("calls left to see all", s.left >= 0);
        return s.seen.toString();
    }

    private long note(long answer) {
        left--;
        seen.append(answer).append(' ');
        return answer;
    }

    private void asItStands() {
        for (int what = 0; what < 7; what++) note(x.count(what));
        for (int i = 0; i < 9; i++) note(x.trace(i));
        for (int shelf = 0; shelf < 6; shelf++) shelf(shelf);
        seller();
        note(x.seller());
        seller();
        int bodies = (int) note(x.count(5));
        if (bodies > 0) {
            note(x.act(0, 3, 5));
            note(x.act(bodies - 1, 3, 5));
        }
        debtsAndCoins();
    }

    private void undone() {
        for (int i = 0; i < 41 && note(x.undo()) >= 0; i++) continue;
        debtsAndCoins();
    }

    private void doneAgain() {
        for (int i = 0; i < 41 && note(x.redo()) >= 0; i++) continue;
        debtsAndCoins();
    }

    private void shelf(int shelf) {
        note(x.taken(shelf, 0));
        for (int i = 0; i < 6; i++) note(x.element(shelf, i));
        note(x.element(shelf, 59));
        for (int n : LENGTHS) note(x.shift(shelf, 0, shelf, 0, n));
        note(x.put(shelf, 0, TELLS_SORTS));
        note(x.element(shelf, 0));
    }

    private void seller() {
        note(x.chosen(2, 60, 0));
        note(x.chosen(2, 60, 1));
        note(x.chosen(90, 130, 1));
    }

    private void debtsAndCoins() {
        for (int a = 0; a < 8; a++) {
            for (int b = 0; b < 8; b++) {
                if (a != b) note(x.owes(10 * a + b));
            }
        }
        int coins = (int) note(x.count(1));
        for (int coin = 0; coin < coins; coin++) {
            note(x.mint(coin, 0, 1));
            note(x.mint(coin, 1, 0));
        }
    }
}
