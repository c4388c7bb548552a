import java.math.BigInteger;
import java.util.ArrayList;
import java.util.List;

/** The document again, in the slowest and plainest way, without a word of the class itself. */
final class Plain {
    static final int BAD = -1, NOT = -2, FULL = -3, STATE = -5, VOID = -2000000000;
    private int law = 0;
    private final List<int[]> coins = new ArrayList<>();
    private int[][] debts = new int[8][8];
    private final List<int[]> done = new ArrayList<>();
    private final List<int[]> undone = new ArrayList<>();
    private String tape = "";
    private String seller = null;
    private final List<PlainActs.Payment> payments = new ArrayList<>();
    private List<Integer> trace = new ArrayList<>();
    private final Object[] shelves = new Object[6];

    // ---- laws

    static boolean whole(long n) {
        if (n < 2) return false;
        if (n > 2000000) return BigInteger.valueOf(n).isProbablePrime(60);
        for (long a = 2; a * a <= n; a++) if (n % a == 0) return false;
        return true;
    }

    static List<Long> partsOf(long n) {
        List<Long> parts = new ArrayList<>();
        for (long a = 2; n > 1; a++) {
            if (a * a > n) a = n;
            while (n % a == 0) {
                parts.add(a);
                n /= a;
            }
        }
        return parts;
    }

    /** What is lawful among the least sums, by each law, as it was found out: 0 not yet, 1 no, 2 yes. */
    private static final byte[][] KNOWN = new byte[4][5000];

    boolean isLawful(long n) {
        if (n < 0 || n >= 5000) return findOut(n);
        if (KNOWN[law][(int) n] == 0) KNOWN[law][(int) n] = (byte) (findOut(n) ? 2 : 1);
        return KNOWN[law][(int) n] == 2;
    }

    private boolean findOut(long n) {
        if (n < 2) return false;
        if (law == 0) return whole(n);
        if (law == 1) return partsOf(n).size() == 2;
        if (law == 3) return whole(n) && (whole(n + 2) || n - 2 >= 2 && whole(n - 2));
        for (long a = 2; a <= n - a; a++) if (whole(a) && whole(n - a)) return true;
        return false;
    }

    int force(int l) {
        if (l < 0 || l > 3) return BAD;
        int was = law;
        law = l;
        return was;
    }

    int lawful(int hi, int lo) {
        if (hi < 0 || hi > 999999 || lo < 0 || lo > 999999) return BAD;
        long n = hi * 1000000L + lo;
        if (law == 2 && n > 100000) return n % 2 == 0 || whole(n - 2) ? 1 : 0;
        return isLawful(n) ? 1 : 0;
    }

    long part(int hi, int lo) {
        if (hi < 0 || hi > 999999 || lo < 0 || lo > 999999 || hi == 0 && lo < 2) return Long.MIN_VALUE;
        return partsOf(hi * 1000000L + lo).get(0);
    }

    int parts(int n, int i) {
        if (n < 2 || n > 1000000000) return BAD;
        List<Long> all = partsOf(n);
        if (i == -1) return all.size();
        return i < 0 || i >= all.size() ? BAD : all.get(i).intValue();
    }

    int look(int n, int g) {
        if (n < 3 || n > 1000000000 || g < 2 || g > n - 1) return BAD;
        BigInteger m = BigInteger.valueOf(n), b = BigInteger.valueOf(g);
        if (!b.modPow(BigInteger.valueOf(n - 1), m).equals(BigInteger.ONE)) return 0;
        for (long q : partsOf(n - 1)) if (b.modPow(BigInteger.valueOf((n - 1) / q), m).equals(BigInteger.ONE)) return 0;
        return 1;
    }

    int proof(int n) {
        if (n < 3 || n > 1000000000) return BAD;
        if (!whole(n)) return NOT;
        int g = 2;
        while (look(n, g) != 1) g++;
        return g;
    }

    // ---- sums

    /** The first row of k lawful ones, none above most, that make n. */
    private int[] rowOf(int n, int k, int most) {
        if (k == 0) return n == 0 ? new int[0] : null;
        for (int p = Math.min(n, most); p >= 2 && (long) p * k >= n; p--) {
            if (!isLawful(p)) continue;
            int[] rest = rowOf(n - p, k - 1, p);
            if (rest == null) continue;
            int[] row = new int[k];
            row[0] = p;
            System.arraycopy(rest, 0, row, 1, k - 1);
            return row;
        }
        return null;
    }

    int fewest(int n, int i) {
        if (n < 1 || n > 2000 || i < -1) return BAD;
        for (int k = 1; k <= 9; k++) {
            int[] row = rowOf(n, k, n);
            if (row != null) return i == -1 ? k : i < k ? row[i] : BAD;
        }
        return NOT;
    }

    private int ways(int n, int k, int most) {
        if (k == 0) return n == 0 ? 1 : 0;
        int ways = 0;
        for (int p = Math.min(n, most); p >= 2; p--) if (isLawful(p)) ways += ways(n - p, k - 1, p);
        return ways;
    }

    int counted(int n, int k) {
        return n < 0 || n > 400 || k < 1 || k > 5 ? BAD : Math.min(1000000000, ways(n, k, n));
    }

    int coin(int worth, int many) {
        if (worth < 1 || worth > 999 || many < 0 || many > 9) return BAD;
        if (coins.size() == 16) return FULL;
        coins.add(new int[] {worth, many});
        return coins.size() - 1;
    }

    int mint(int coin, int what, int v) {
        if (coin < 0 || coin >= coins.size() || what < 0 || what > 1) return BAD;
        if (what == 0 ? v < 1 || v > 999 : v < 0 || v > 9) return BAD;
        return changes(coins.get(coin), what, v, 100 + 2 * coin + what);
    }

    private int changes(int[] row, int at, int v, int name) {
        int was = row[at];
        if (was != v) {
            row[at] = v;
            done.add(new int[] {name, was, v});
            if (done.size() > 40) done.remove(0);
            undone.clear();
        }
        return was;
    }

    private void becomes(int name, int v) {
        if (name < 100) debts[name / 10][name % 10] = v;
        else coins.get((name - 100) / 2)[name % 2] = v;
    }

    int undo() {
        if (done.isEmpty()) return STATE;
        int[] last = done.remove(done.size() - 1);
        undone.add(last);
        becomes(last[0], last[1]);
        return done.size();
    }

    int redo() {
        if (undone.isEmpty()) return STATE;
        int[] last = undone.remove(undone.size() - 1);
        done.add(last);
        becomes(last[0], last[2]);
        return undone.size();
    }

    private int bestCount;
    private int[] bestCoins;

    /** All ways to pay, the most of the first coins first; a later one wins by fewer coins alone. */
    private void pay(int i, int left, int[] used, int count) {
        if (left == 0 && count < bestCount) {
            bestCount = count;
            bestCoins = used.clone();
        }
        if (i == coins.size() || left == 0) return;
        int most = isLawful(coins.get(i)[0]) ? coins.get(i)[1] : 0;
        for (int c = Math.min(most, left / coins.get(i)[0]); c >= 0; c--) {
            used[i] = c;
            pay(i + 1, left - c * coins.get(i)[0], used, count + c);
            used[i] = 0;
        }
    }

    int coins(int n, int i) {
        if (n < 0 || n > 2000 || i < -1 || i >= coins.size()) return BAD;
        bestCount = 1000;
        pay(0, n, new int[coins.size()], 0);
        if (bestCount == 1000) return NOT;
        return i == -1 ? bestCount : bestCoins[i];
    }

    int change(int n) {
        if (n < 1 || n > 2000) return BAD;
        for (int b = 1; b <= 2000; b++) if (isLawful(b) && isLawful(b + n)) return b;
        return NOT;
    }

    int third(int n) {
        if (n < 1 || n > 100000) return BAD;
        int best = NOT;
        for (int a = 1; a <= n - a; a++) if (isLawful(a) && isLawful(n - a)) best = a;
        return best;
    }

    private boolean lawfulFar(long n) {
        return law == 2 && n > 1000 ? n % 2 == 0 || whole(n - 2) : isLawful(n);
    }

    int next(int n, int what) {
        if (n < 0 || n > 1000000000 || what < 0 || what > 2) return BAD;
        int up = n, down = n;
        while (up <= 1000001000 && !lawfulFar(up)) up++;
        if (up > 1000001000) up = NOT;
        while (down >= 0 && !lawfulFar(down)) down--;
        if (down < 0) down = NOT;
        if (what == 0) return up;
        if (what == 1) return down;
        if (up == NOT) return down;
        if (down == NOT) return up;
        return n - down <= up - n ? down : up;
    }

    int many(int a, int b) {
        if (a < 0 || b > 100000 || b < a) return BAD;
        int many = 0;
        for (int n = a; n <= b; n++) many += lawfulFar(n) ? 1 : 0;
        return many;
    }

    int gap(int a, int b, int what) {
        if (a < 0 || b > 100000 || b < a || what < 0 || what > 1) return BAD;
        List<Integer> all = new ArrayList<>();
        for (int n = a; n <= b; n++) if (lawfulFar(n)) all.add(n);
        int[] best = {NOT, NOT};
        for (int i = 1; i < all.size(); i++) {
            int wide = all.get(i) - all.get(i - 1);
            if (wide > best[0]) best = new int[] {wide, all.get(i - 1)};
        }
        return best[what];
    }

    // ---- sellers, rents, shares

    int feed(int n, int v) {
        if (n < 1 || n > 4) return BAD;
        if (tape.length() + n > 120) return FULL;
        for (int i = 0; i < n; i++) tape += (char) (v >>> 8 * i & 255);
        return tape.length();
    }

    int seller() {
        int fault = PlainText.fault(tape);
        if (fault < 0) seller = tape;
        tape = "";
        return fault < 0 ? 1 : -100 - fault;
    }

    int chosen(int a, int b, int what) {
        if (a < 0 || b > 100000 || b < a || b - a > 2000 || what < 0 || what > 1) return VOID;
        int[] best = null;
        for (int p = a; p <= b; p++) {
            if (!lawfulFar(p)) continue;
            int last = p == 0 ? NOT : next(p - 1, 1);
            int brings = seller == null ? p : PlainText.worth(seller, p, last == NOT ? 0 : p - last, many(a, p));
            if (best == null || brings > best[1]) best = new int[] {p, brings};
        }
        return best == null ? VOID : best[what];
    }

    int rent(int r, int years) {
        if (r < 2 || r > 10000 || years < 1 || years > 30) return BAD;
        return years == 0 ? r : grown(r, years);
    }

    private int grown(int r, int years) {
        return years == 0 ? r : grown(next(r + (r < 10 ? 1 : r / 10), 0), years - 1);
    }

    int tax(int n) {
        return n < 0 || n > 1000000000 ? BAD : next(n / 10, 1);
    }

    int rounded(int n, int paid) {
        if (n < 0 || n > 1000000000 || paid < 0 || paid > 1) return BAD;
        int to = next(n, 1 - paid);
        return to == NOT ? NOT : paid == 1 ? to - n : n - to;
    }

    private void rows(int n, int k, int i, int[] row, List<int[]> all) {
        if (i == k) {
            if (n == 0) all.add(row.clone());
            return;
        }
        for (int s = i == 0 ? 2 : row[i - 1]; s <= n; s++) {
            if (i == k - 1 && s != n || !isLawful(s)) continue;
            row[i] = s;
            rows(n - s, k, i + 1, row, all);
        }
    }

    int shares(int n, int k, int i) {
        if (n < 1 || n > 600 || k < 2 || k > 4 || i < -1 || i >= k) return BAD;
        List<int[]> all = new ArrayList<>();
        rows(n, k, 0, new int[k], all);
        int[] best = null;
        for (int[] row : all) if (best == null || row[k - 1] - row[0] < best[k - 1] - best[0]) best = row;
        if (best == null) return NOT;
        return i == -1 ? best[k - 1] - best[0] : best[i];
    }

    // ---- debts

    private static boolean isPair(int ab) {
        return ab >= 0 && ab <= 77 && ab / 10 != ab % 10 && ab % 10 <= 7;
    }

    int debt(int ab, int v) {
        if (!isPair(ab) || v < 0 || v > 9999) return BAD;
        return changes(debts[ab / 10], ab % 10, v, ab);
    }

    private int net(int one) {
        int net = 0;
        for (int o = 0; o < 8; o++) net += debts[o][one] - debts[one][o];
        return net;
    }

    int owes(int ab) {
        if (ab >= -8 && ab <= -1) return net(-1 - ab);
        return isPair(ab) ? debts[ab / 10][ab % 10] : VOID;
    }

    int judge() {
        for (int ab = 0; ab < 78; ab++) {
            if (isPair(ab) && debts[ab / 10][ab % 10] > 0 && !lawfulFar(debts[ab / 10][ab % 10])) return ab;
        }
        return NOT;
    }

    int round() {
        for (int times = 0;; times++) {
            int[] best = null;
            for (int abc = 0; abc < 1000; abc++) {
                int a = abc / 100, b = abc / 10 % 10, c = abc % 10;
                if (a > 7 || b > 7 || c > 7 || a == b || b == c || a == c) continue;
                int least = Math.min(debts[a][b], Math.min(debts[b][c], debts[c][a]));
                if (least > 0 && (best == null || least > best[3])) best = new int[] {a, b, c, least};
            }
            if (best == null) return times;
            for (int i = 0; i < 3; i++) {
                int from = best[i], to = best[(i + 1) % 3];
                changes(debts[from], to, debts[from][to] - best[3], 10 * from + to);
            }
        }
    }

    int struck() {
        int more = 0;
        for (int[] row : debts) for (int d : row) if (d > 0) more += next(d, 0) - d;
        return more;
    }

    int settle(int what) {
        if (what < 0 || what > 1) return BAD;
        int[] nets = new int[8], counts = new int[2];
        for (int one = 0; one < 8; one++) nets[one] = net(one);
        while (true) {
            int from = -1, to = -1;
            for (int one = 7; one >= 0; one--) {
                if (nets[one] < 0 && (from < 0 || nets[one] <= nets[from])) from = one;
                if (nets[one] > 0 && (to < 0 || nets[one] >= nets[to])) to = one;
            }
            if (from < 0) return counts[what];
            int paid = Math.min(-nets[from], nets[to]);
            nets[from] += paid;
            nets[to] -= paid;
            counts[0]++;
            counts[1] += lawfulFar(paid) ? 1 : 0;
        }
    }

    int looked(int shelf, int i, int n) {
        if (shelf < 0 || shelf > 5 || n < 1 || n > 60) return BAD;
        if (shelves[shelf] == null) return -11;
        if (!(shelves[shelf] instanceof long[])) return -12;
        long[] row = (long[]) shelves[shelf];
        try {
            for (int k = i; k < i + n; k++) {
                if (row[k] > 1000000000000L || !lawfulFar(row[k]) || row[k] < 2) return k;
            }
        } catch (ArrayIndexOutOfBoundsException e) {
            return -13;
        }
        return i + n < i ? -13 : i + n;
    }

    // ---- acts, shelves

    int body(int kind) {
        if (kind < 0 || kind > 7) return BAD;
        if (payments.size() == 50) return FULL;
        payments.add(PlainActs.make(kind, payments.size()));
        return payments.size() - 1;
    }

    int act(int body, int act, int x) {
        trace = new ArrayList<>();
        if (body < 0 || body >= payments.size() || act < 0 || act > 3) return 0;
        PlainActs.Payment p = payments.get(body);
        p.trace = trace;
        return act == 0 ? p.pays(x) : act == 1 ? p.owes(x) : act == 2 ? p.parts(x) : p.tells(x);
    }

    int trace(int i) {
        return i < 0 || i >= Math.min(24, trace.size()) ? BAD : trace.get(i);
    }

    int keep(int shelf, int body) {
        if (shelf < 0 || shelf > 5 || body < -1 || body >= payments.size()) return BAD;
        shelves[shelf] = body < 0 ? null : payments.get(body);
        return 1;
    }

    int row(int shelf, int sort, int n) {
        if (shelf < 0 || shelf > 5 || sort < 0 || sort > 4 || n > 60) return BAD;
        if (n < 0) return -14;
        shelves[shelf] = sort == 0 ? new byte[n] : sort == 1 ? new short[n] : sort == 2 ? new int[n]
            : sort == 3 ? (Object) new long[n] : new boolean[n];
        return 1;
    }

    private int refusal(int shelf) {
        if (shelf < 0 || shelf > 5) return BAD;
        return shelves[shelf] == null ? -11 : shelves[shelf].getClass().isArray() ? 0 : -12;
    }

    int put(int shelf, int i, long v) {
        if (refusal(shelf) != 0) return refusal(shelf);
        Object row = shelves[shelf];
        try {
            if (row instanceof byte[]) ((byte[]) row)[i] = (byte) v;
            if (row instanceof short[]) ((short[]) row)[i] = (short) v;
            if (row instanceof int[]) ((int[]) row)[i] = (int) v;
            if (row instanceof long[]) ((long[]) row)[i] = v;
            if (row instanceof boolean[]) ((boolean[]) row)[i] = v != 0;
            return 1;
        } catch (ArrayIndexOutOfBoundsException e) {
            return -13;
        }
    }

    long element(int shelf, int i) {
        if (refusal(shelf) != 0) return Long.MIN_VALUE;
        try {
            Object v = java.lang.reflect.Array.get(shelves[shelf], i);
            return v instanceof Boolean ? ((Boolean) v ? 1 : 0) : ((Number) v).longValue();
        } catch (ArrayIndexOutOfBoundsException e) {
            return Long.MIN_VALUE;
        }
    }

    int shift(int shelf, int i, int other, int j, int n) {
        if (shelf < 0 || shelf > 5 || other < 0 || other > 5) return BAD;
        try {
            System.arraycopy(shelves[shelf], i, shelves[other], j, n);
            return n;
        } catch (NullPointerException e) {
            return -11;
        } catch (ArrayStoreException e) {
            return -12;
        } catch (IndexOutOfBoundsException e) {
            return -13;
        }
    }

    int taken(int shelf, int k) {
        if (shelf < 0 || shelf > 5 || k < 0 || k > 7) return BAD;
        if (shelves[shelf] == null) return -11;
        if (!PlainActs.KINDS[k].isInstance(shelves[shelf])) return -12;
        for (int kind = 0; kind < 8; kind++) if (PlainActs.KINDS[kind] == shelves[shelf].getClass()) return kind;
        return 0;
    }

    int count(int what) {
        int open = 0;
        for (int[] row : debts) for (int d : row) open += d > 0 ? 1 : 0;
        int[] counts = {law, coins.size(), open, tape.length(), done.size(), payments.size(), trace.size()};
        return what < 0 || what > 6 ? BAD : counts[what];
    }
}
