import java.util.Arrays;

/** Sums that lie in one row alone are lawful; what is paid, chosen, owed and told goes by them. */
public final class LawfulSums {
    public static final int BAD = -1, NOT = -2, FULL = -3, STATE = -5, VOID = -2000000000;

    private static final int NOTHING_THERE = -11, OTHER_KIND = -12, NO_PLACE = -13, SIZE_BELOW = -14;
    private static final int BILLION = 1000000000, MILLION = 1000000, WALKED = 100000;

    private final Numbers numbers = new Numbers();
    private final Laws laws = new Laws(numbers);
    private final Sums sums = new Sums(laws);
    private final Split split = new Split(laws);
    private final Ledger ledger = new Ledger();
    private final Purse purse = new Purse(laws, ledger);
    private final Debts debts = new Debts(laws, ledger);
    private final Seller seller = new Seller(laws);
    private final Reader reader = new Reader();
    private final Payments payments = new Payments();
    private final Shelves shelves = new Shelves(laws, payments);

    public LawfulSums() {
    }

    private static boolean within(int n, int least, int most) {
        return n >= least && n <= most;
    }

    // ---- what is lawful

    public int force(int law) {
        if (!within(law, 0, Laws.LAST_LAW)) {
            return BAD;
        }
        int was = laws.inForce();
        laws.enforce(law);
        return was;
    }

    public int lawful(int hi, int lo) {
        if (!isBookSum(hi, lo)) {
            return BAD;
        }
        return laws.isLawful(bookSum(hi, lo)) ? 1 : 0;
    }

    public long part(int hi, int lo) {
        if (!isBookSum(hi, lo) || bookSum(hi, lo) < 2) {
            return Long.MIN_VALUE;
        }
        return numbers.leastPart(bookSum(hi, lo));
    }

    private static boolean isBookSum(int hi, int lo) {
        return within(hi, 0, MILLION - 1) && within(lo, 0, MILLION - 1);
    }

    private static long bookSum(int hi, int lo) {
        return (long) hi * MILLION + lo;
    }

    public int parts(int n, int i) {
        if (!within(n, 2, BILLION) || i < -1) {
            return BAD;
        }
        int many = numbers.listParts(n);
        if (i == -1) {
            return many;
        }
        return i < many ? numbers.listed(i) : BAD;
    }

    public int proof(int n) {
        if (!within(n, 3, BILLION)) {
            return BAD;
        }
        return numbers.leastProof(n);
    }

    public int look(int n, int g) {
        if (!within(n, 3, BILLION) || !within(g, 2, n - 1)) {
            return BAD;
        }
        return numbers.proves(n, g, numbers.listParts(n - 1)) ? 1 : 0;
    }

    // ---- sums

    public int fewest(int n, int i) {
        if (!within(n, 1, Sums.FEWEST_TO) || i < -1) {
            return BAD;
        }
        int many = sums.fewestFor(n);
        if (many == NOT || i == -1) {
            return many;
        }
        return i < many ? sums.fewestAt(n, i) : BAD;
    }

    public int counted(int n, int k) {
        if (!within(n, 0, Sums.COUNTED_TO) || !within(k, 1, Sums.COUNTED_OF)) {
            return BAD;
        }
        return sums.waysFor(n, k);
    }

    public int coin(int worth, int many) {
        if (!Purse.isWorth(worth) || !Purse.isNumber(many)) {
            return BAD;
        }
        return purse.take(worth, many);
    }

    public int mint(int coin, int what, int v) {
        if (!within(coin, 0, purse.size() - 1) || !within(what, 0, 1)) {
            return BAD;
        }
        if (what == 0) {
            return Purse.isWorth(v) ? ledger.become(Ledger.WORTHS + coin, v) : BAD;
        }
        return Purse.isNumber(v) ? ledger.become(Ledger.NUMBERS + coin, v) : BAD;
    }

    public int coins(int n, int i) {
        if (!within(n, 0, Purse.PAID_TO) || !within(i, -1, purse.size() - 1)) {
            return BAD;
        }
        int inAll = purse.fewestFor(n);
        return inAll == NOT || i == -1 ? inAll : purse.fewestOf(n, i);
    }

    public int change(int n) {
        if (!within(n, 1, 2000)) {
            return BAD;
        }
        for (int back = 1; back <= 2000; back++) {
            if (laws.isLawful(back) && laws.isLawful(n + back)) {
                return back;
            }
        }
        return NOT;
    }

    public int third(int n) {
        if (!within(n, 1, WALKED)) {
            return BAD;
        }
        for (int a = n / 2; a >= 2; a--) {
            if (laws.isLawful(a) && laws.isLawful(n - a)) {
                return a;
            }
        }
        return NOT;
    }

    public int next(int n, int what) {
        if (!within(n, 0, BILLION) || !within(what, 0, 2)) {
            return BAD;
        }
        if (what == 2) {
            return laws.nearest(n);
        }
        return what == 0 ? laws.leastFrom(n) : laws.greatestTo(n);
    }

    public int many(int a, int b) {
        if (!isWalk(a, b)) {
            return BAD;
        }
        int many = 0;
        for (int n = a; n <= b; n++) {
            if (laws.isLawful(n)) {
                many++;
            }
        }
        return many;
    }

    public int gap(int a, int b, int what) {
        if (!isWalk(a, b) || !within(what, 0, 1)) {
            return BAD;
        }
        int last = NOT, widest = NOT, behind = NOT;
        for (int n = a; n <= b; n++) {
            if (laws.isLawful(n)) {
                if (last != NOT && n - last > widest) {
                    widest = n - last;
                    behind = last;
                }
                last = n;
            }
        }
        return what == 0 ? widest : behind;
    }

    private static boolean isWalk(int a, int b) {
        return within(a, 0, WALKED) && within(b, a, WALKED);
    }

    // ---- sellers, rents, shares

    public int feed(int n, int v) {
        if (!within(n, 1, 4)) {
            return BAD;
        }
        return reader.feedBytes(n, v);
    }

    public int seller() {
        int fault = reader.readText();
        if (fault >= 0) {
            return -100 - fault;
        }
        seller.learn(reader);
        return 1;
    }

    public int chosen(int a, int b, int what) {
        if (!isWalk(a, b) || b - a > Seller.APART || !within(what, 0, 1) || !seller.choose(a, b)) {
            return VOID;
        }
        return what == 0 ? seller.price() : seller.brings();
    }

    public int rent(int r, int years) {
        if (!within(r, 2, 10000) || !within(years, 1, 30)) {
            return BAD;
        }
        int now = r;
        for (int year = 0; year < years; year++) {
            now = laws.leastFrom(now + Math.max(1, now / 10));
        }
        return now;
    }

    public int tax(int n) {
        if (!within(n, 0, BILLION)) {
            return BAD;
        }
        return laws.greatestTo(n / 10);
    }

    public int rounded(int n, int paid) {
        if (!within(n, 0, BILLION) || !within(paid, 0, 1)) {
            return BAD;
        }
        int becomes = paid == 1 ? laws.leastFrom(n) : laws.greatestTo(n);
        return becomes == NOT ? NOT : Math.abs(becomes - n);
    }

    public int shares(int n, int k, int i) {
        if (!within(n, 1, 600) || !within(k, 2, Split.MOST) || !within(i, -1, k - 1)) {
            return BAD;
        }
        int apart = split.divide(n, k);
        return apart == NOT || i == -1 ? apart : split.share(i);
    }

    // ---- debts

    public int debt(int ab, int v) {
        if (!Debts.isPair(ab) || !within(v, 0, Debts.MOST)) {
            return BAD;
        }
        return ledger.become(Debts.place(ab / 10, ab % 10), v);
    }

    public int owes(int ab) {
        if (Debts.isPair(ab)) {
            return debts.of(ab / 10, ab % 10);
        }
        return within(-1 - ab, 0, Debts.PEOPLE - 1) ? debts.net(-1 - ab) : VOID;
    }

    public int judge() {
        return debts.firstUnlawful();
    }

    public int round() {
        return debts.cancelAll();
    }

    public int struck() {
        return debts.rise();
    }

    public int settle(int what) {
        if (!within(what, 0, 1)) {
            return BAD;
        }
        return debts.payments(what == 1);
    }

    public int looked(int shelf, int i, int n) {
        if (!Shelves.isShelf(shelf) || !within(n, 1, Shelves.LONGEST)) {
            return BAD;
        }
        return shelves.firstUnlawful(shelf, i, n);
    }

    public int undo() {
        return ledger.takeBack();
    }

    public int redo() {
        return ledger.doAgain();
    }

    // ---- acts, shelves

    public int body(int kind) {
        if (!within(kind, 0, Payments.KINDS - 1)) {
            return BAD;
        }
        return payments.add(kind);
    }

    public int act(int body, int act, int x) {
        return payments.perform(body, act, x);
    }

    public int trace(int i) {
        return payments.traced(i);
    }

    public int keep(int shelf, int body) {
        if (!Shelves.isShelf(shelf) || !within(body, -1, payments.size() - 1)) {
            return BAD;
        }
        return shelves.holdPayment(shelf, body);
    }

    public int row(int shelf, int sort, int n) {
        if (!Shelves.isShelf(shelf) || !within(sort, 0, Shelves.SORTS - 1) || n > Shelves.LONGEST) {
            return BAD;
        }
        return n < 0 ? SIZE_BELOW : shelves.holdRow(shelf, sort, n);
    }

    public int put(int shelf, int i, long v) {
        if (!Shelves.isShelf(shelf)) {
            return BAD;
        }
        return shelves.write(shelf, i, v);
    }

    public long element(int shelf, int i) {
        if (!Shelves.isShelf(shelf)) {
            return Long.MIN_VALUE;
        }
        return shelves.read(shelf, i);
    }

    public int shift(int shelf, int i, int other, int j, int n) {
        if (!Shelves.isShelf(shelf) || !Shelves.isShelf(other)) {
            return BAD;
        }
        return shelves.copy(shelf, i, other, j, n);
    }

    public int taken(int shelf, int k) {
        if (!Shelves.isShelf(shelf) || !within(k, 0, Payments.KINDS - 1)) {
            return BAD;
        }
        return shelves.kindUnder(shelf, k);
    }

    public int count(int what) {
        switch (what) {
            case 0: return laws.inForce();
            case 1: return purse.size();
            case 2: return debts.open();
            case 3: return reader.length();
            case 4: return ledger.done();
            case 5: return payments.size();
            case 6: return payments.ran();
            default: return BAD;
        }
    }

    /** What parts and what does not (LAW 0, whichever is in force). */
    private static final class Numbers {
        /** Many calls walk over all sums up to 100000 and look 2 further: those are sieved once. */
        private static final int SIEVED = WALKED + 3;
        /** No number below 3.4 * 10^12 that parts is whole by all of these (Jaeschke, 1993). */
        private static final int[] BASES = {2, 3, 5, 7, 11, 13};
        /** Numbers told in any call stay below 2 to the power of 40, their roots below these. */
        private static final int BITS = 40, ROOT = 1000000, CUBE_ROOT = 10000;

        private final int[] whole = new int[(SIEVED >> 5) + 1];
        private final int[] list = new int[32];

        Numbers() {
            // The odd ones stand at first; of 0 .. 2 only 2 stays.
            Arrays.fill(whole, 0xAAAAAAAA);
            whole[0] ^= 6;
            for (int a = 3; a * a < SIEVED; a += 2) {
                if (sieved(a)) {
                    strikeFrom(a * a, 2 * a);
                }
            }
        }

        private void strikeFrom(int first, int step) {
            for (int m = first; m < SIEVED; m += step) {
                whole[m >> 5] &= ~(1 << (m & 31));
            }
        }

        private boolean sieved(int n) {
            return (whole[n >> 5] >> (n & 31) & 1) == 1;
        }

        boolean isWhole(long n) {
            if (n < 2) {
                return false;
            }
            if (n < SIEVED) {
                return sieved((int) n);
            }
            for (int base : BASES) {
                if (n % base == 0 || showsParts(base, n)) {
                    return false;
                }
            }
            return true;
        }

        static long besideLeast(long n) {
            long small = smallPart(n, CUBE_ROOT);
            // Three parts above the cube root would make more than n: what stands there is whole, as 2 is.
            return small == 0 ? 2 : n / small;
        }

        long leastPart(long n) {
            if (isWhole(n)) {
                return n;
            }
            long small = smallPart(n, ROOT);
            return small == 0 ? n : small;
        }

        /** n is told to part: without that, n itself could be its small part. 0: none. */
        private static long smallPart(long n, int most) {
            if (n % 2 == 0) {
                return 2;
            }
            if (n % 3 == 0) {
                return 3;
            }
            for (int a = 5; a <= most; a += 6) {
                if (n % a == 0) {
                    return a;
                }
                if (n % (a + 2) == 0) {
                    return a + 2;
                }
            }
            return 0;
        }

        int listParts(int n) {
            int many = 0;
            long left = n;
            for (; many < list.length && left > 1; many++) {
                long least = leastPart(left);
                list[many] = (int) least;
                left = least < 2 ? 1 : left / least;
            }
            return many;
        }

        int listed(int i) {
            return i >= 0 && i < list.length ? list[i] : BAD;
        }

        int leastProof(int n) {
            if (!isWhole(n)) {
                return NOT;
            }
            int many = listParts(n - 1);
            for (int g = 2; g < n; g++) {
                if (proves(n, g, many)) {
                    return g;
                }
            }
            return NOT;
        }

        /** The parts of n less 1 are listed ahead of it, once for all g. */
        boolean proves(int n, int g, int many) {
            if (power(g, n - 1, n) != 1) {
                return false;
            }
            for (int i = 0; i < many && i < list.length; i++) {
                if (list[i] > 0 && power(g, (n - 1) / list[i], n) == 1) {
                    return false;
                }
            }
            return true;
        }

        private static long power(long a, long exponent, long n) {
            long made = 1, square = a;
            for (long left = exponent; left > 0; left >>= 1) {
                if ((left & 1) == 1) {
                    made = product(made, square, n);
                }
                square = product(square, square, n);
            }
            return made;
        }

        /** Raises base to n less 1: other than 1, or 1 from a root that is not 1 nor n less 1, shows that n parts. */
        private static boolean showsParts(long base, long n) {
            long made = 1;
            for (int bit = BITS; bit >= 0; bit--) {
                long square = product(made, made, n);
                if (square == 1 && made != 1 && made != n - 1) {
                    return true;
                }
                made = ((n - 1) >> bit & 1) == 1 ? product(square, base, n) : square;
            }
            return made != 1;
        }

        /** a times b by n, in two halves since a and b of 40 bits each would not fit a long. */
        private static long product(long a, long b, long n) {
            if (n < 2) {
                return 0;
            }
            long high = a * (b >> 20) % n;
            return ((high << 20) + a * (b & 0xFFFFF)) % n;
        }
    }

    /** The LAW IN FORCE, and the lawful ones next to a sum. */
    private static final class Laws {
        static final int LAST_LAW = 3;
        private static final int NEXT_TO = BILLION + 1000;

        private final Numbers numbers;
        private int law;

        Laws(Numbers numbers) {
            this.numbers = numbers;
        }

        int inForce() {
            return law;
        }

        void enforce(int other) {
            law = other;
        }

        boolean isLawful(long n) {
            if (n < 2) {
                return false;
            }
            switch (law) {
                case 0: return numbers.isWhole(n);
                case 1: return !numbers.isWhole(n) && numbers.isWhole(Numbers.besideLeast(n));
                // Every even sum from 4 to far above 10^12 is known to be one of two; an odd one needs a 2.
                case 2: return n % 2 == 0 ? n > 2 : numbers.isWhole(n - 2);
                default: return numbers.isWhole(n) && (numbers.isWhole(n + 2) || numbers.isWhole(n - 2));
            }
        }

        int leastFrom(int n) {
            for (int m = Math.max(n, 2); m <= NEXT_TO; m++) {
                if (isLawful(m)) {
                    return m;
                }
            }
            return NOT;
        }

        int greatestTo(int n) {
            for (int m = n; m >= 2; m--) {
                if (isLawful(m)) {
                    return m;
                }
            }
            return NOT;
        }

        int nearest(int n) {
            int above = leastFrom(n), below = greatestTo(n);
            if (above == NOT || below == NOT) {
                return Math.max(above, below);
            }
            return above - n < n - below ? above : below;
        }
    }

    /** The fewest lawful ones that make a sum, and the ways to make it of just so many. */
    private static final class Sums {
        static final int FEWEST_TO = 2000, COUNTED_TO = 400, COUNTED_OF = 5;
        private static final int TOO_MANY = 10;

        private final Laws laws;
        private final int[] lawfulOnes = new int[FEWEST_TO + 1];
        private int many;
        private final int[] fewest = new int[FEWEST_TO + 1];
        private final int[][] ways = new int[COUNTED_OF + 1][COUNTED_TO + 1];
        /** The laws that the tables are made for: another one in force wants them made anew. */
        private int fewestLaw = NOT, waysLaw = NOT;

        Sums(Laws laws) {
            this.laws = laws;
        }

        int fewestFor(int n) {
            if (fewestLaw != laws.inForce()) {
                fewestLaw = laws.inForce();
                makeFewest();
            }
            return fewest[n] < TOO_MANY ? fewest[n] : NOT;
        }

        private void makeFewest() {
            many = 0;
            for (int n = 1; n <= FEWEST_TO; n++) {
                if (laws.isLawful(n)) {
                    fewest[n] = 1;
                    lawfulOnes[many] = n;
                    many++;
                } else {
                    fewest[n] = leastOfTwoOrMore(n);
                }
            }
        }

        private int leastOfTwoOrMore(int n) {
            int least = TOO_MANY;
            for (int i = 0; i < many && least > 2; i++) {
                least = Math.min(least, fewest[n - lawfulOnes[i]] + 1);
            }
            return least;
        }

        /** The i-th of the fewest for n; fewestFor(n) has told that it is there. */
        int fewestAt(int n, int i) {
            int left = n;
            for (int k = 0; k < i; k++) {
                left -= greatestFirst(left);
            }
            return greatestFirst(left);
        }

        private int greatestFirst(int n) {
            for (int i = many - 1; i >= 0; i--) {
                int one = lawfulOnes[i];
                if (one <= n && fewest[n - one] == fewest[n] - 1) {
                    return one;
                }
            }
            return 0;
        }

        int waysFor(int n, int k) {
            if (waysLaw != laws.inForce()) {
                waysLaw = laws.inForce();
                makeWays();
            }
            return ways[k][n];
        }

        private void makeWays() {
            for (int k = 0; k <= COUNTED_OF; k++) {
                Arrays.fill(ways[k], 0);
            }
            ways[0][0] = 1;
            for (int one = 2; one <= COUNTED_TO; one++) {
                if (laws.isLawful(one)) {
                    addWays(one);
                }
            }
        }

        /** Rising sums let one come in again and again; what came in earlier never comes behind it. */
        private void addWays(int one) {
            for (int n = one; n <= COUNTED_TO; n++) {
                for (int k = 1; k <= COUNTED_OF; k++) {
                    ways[k][n] = Math.min(BILLION, ways[k][n] + ways[k - 1][n - one]);
                }
            }
        }
    }

    /** SHARES of a sum among a few. */
    private static final class Split {
        static final int MOST = 4;
        private static final int FAR = 1000;

        private final Laws laws;
        private final int[] tried = new int[MOST], best = new int[MOST];
        private int among, apart;

        Split(Laws laws) {
            this.laws = laws;
        }

        int divide(int n, int k) {
            among = k;
            apart = FAR;
            tryShare(0, 2, n);
            return apart == FAR ? NOT : apart;
        }

        int share(int i) {
            return best[i];
        }

        /** Tries rows in rising order, so that of rows that differ alike the first stays. */
        private void tryShare(int i, int least, int left) {
            if (i == among - 1) {
                tryLast(left);
                return;
            }
            for (int share = least; share * (among - i) <= left && isNearer(i, share, left); share++) {
                if (laws.isLawful(share)) {
                    tried[i] = share;
                    tryShare(i + 1, share, left - share);
                }
            }
        }

        /** Whether a row with this share can still differ by less than the best one. */
        private boolean isNearer(int i, int share, int left) {
            return i == 0 || share - tried[0] < apart && left <= (among - i) * (tried[0] + apart - 1);
        }

        private void tryLast(int left) {
            if (left - tried[0] < apart && laws.isLawful(left)) {
                tried[among - 1] = left;
                apart = left - tried[0];
                System.arraycopy(tried, 0, best, 0, among);
            }
        }
    }

    /** DEBTS, worths and numbers of COINS in one row, with the CHANGES that can be undone. */
    private static final class Ledger {
        static final int WORTHS = 64, NUMBERS = 80;
        private static final int PLACES = 96, KEPT = 40;

        private final int[] held = new int[PLACES];
        private final int[] place = new int[KEPT], before = new int[KEPT], after = new int[KEPT];
        /** The changes lie in a ring: first the done ones, the oldest ahead, then the undone ones. */
        private int oldest, done, undone;

        int at(int p) {
            return held[p];
        }

        int done() {
            return done;
        }

        /** Nothing to undo: what comes is no CHANGE. */
        void begin(int p, int v) {
            held[p] = v;
        }

        int become(int p, int v) {
            int was = held[p];
            if (v == was) {
                return was;
            }
            if (done == KEPT) {
                oldest = (oldest + 1) % KEPT;
                done--;
            }
            int i = behindDone();
            place[i] = p;
            before[i] = was;
            after[i] = v;
            done++;
            undone = 0;
            held[p] = v;
            return was;
        }

        private int behindDone() {
            return (oldest + done) % KEPT;
        }

        int takeBack() {
            if (done == 0) {
                return STATE;
            }
            done--;
            undone++;
            held[place[behindDone()]] = before[behindDone()];
            return done;
        }

        int doAgain() {
            if (undone == 0) {
                return STATE;
            }
            held[place[behindDone()]] = after[behindDone()];
            done++;
            undone--;
            return undone;
        }
    }

    /** COINS, and the fewest of them that pay a sum. */
    private static final class Purse {
        static final int PAID_TO = 2000;
        private static final int MOST = 16;
        /** Each coin costs ONE less a digit of its own, coin 0 the first: fewest cost least, of as many those with most of coin 0. */
        private static final long ONE = 10000000000000000L, NONE = Long.MAX_VALUE / 2;

        private final Laws laws;
        private final Ledger ledger;
        /** What each sum costs at least, as it was when fewestFor was asked. */
        private final long[] costs = new long[PAID_TO + 1];
        private int size;

        Purse(Laws laws, Ledger ledger) {
            this.laws = laws;
            this.ledger = ledger;
        }

        static boolean isWorth(int v) {
            return within(v, 1, 999);
        }

        static boolean isNumber(int v) {
            return within(v, 0, 9);
        }

        int size() {
            return size;
        }

        int take(int worth, int many) {
            if (size == MOST) {
                return FULL;
            }
            ledger.begin(Ledger.WORTHS + size, worth);
            ledger.begin(Ledger.NUMBERS + size, many);
            size++;
            return size - 1;
        }

        int fewestFor(int n) {
            Arrays.fill(costs, NONE);
            costs[0] = 0;
            long digit = ONE;
            for (int i = 0; i < size; i++) {
                digit /= 10;
                int worth = ledger.at(Ledger.WORTHS + i);
                if (laws.isLawful(worth)) {
                    payWith(worth, ledger.at(Ledger.NUMBERS + i), ONE - digit, n);
                }
            }
            return costs[n] < NONE ? inAll(n) : NOT;
        }

        /** From n down: what stands below m is paid without this coin until then. */
        private void payWith(int worth, int many, long cost, int n) {
            for (int m = n; m >= worth; m--) {
                for (int c = 1; c <= many && c * worth <= m; c++) {
                    costs[m] = Math.min(costs[m], costs[m - c * worth] + c * cost);
                }
            }
        }

        private int inAll(int n) {
            return (int) ((costs[n] + ONE - 1) / ONE);
        }

        /** Of coin i so many; fewestFor(n) has told that n can be paid. */
        int fewestOf(int n, int i) {
            long digits = inAll(n) * ONE - costs[n];
            for (int behind = i + 1; behind < MOST; behind++) {
                digits /= 10;
            }
            return (int) (digits % 10);
        }
    }

    /** What people owe one another. */
    private static final class Debts {
        static final int PEOPLE = 8, MOST = 9999;

        private final Laws laws;
        private final Ledger ledger;
        private final int[] nets = new int[PEOPLE];

        Debts(Laws laws, Ledger ledger) {
            this.laws = laws;
            this.ledger = ledger;
        }

        static boolean isPair(int ab) {
            return ab >= 0 && ab / 10 < PEOPLE && ab % 10 < PEOPLE && ab / 10 != ab % 10;
        }

        static int place(int a, int b) {
            return a * PEOPLE + b;
        }

        /** 0, too, of one and the same. */
        int of(int a, int b) {
            return ledger.at(place(a, b));
        }

        int open() {
            int open = 0;
            for (int p = 0; p < PEOPLE * PEOPLE; p++) {
                if (ledger.at(p) > 0) {
                    open++;
                }
            }
            return open;
        }

        int net(int one) {
            int net = 0;
            for (int other = 0; other < PEOPLE; other++) {
                net += of(other, one) - of(one, other);
            }
            return net;
        }

        private boolean isUnlawful(int p) {
            return ledger.at(p) > 0 && !laws.isLawful(ledger.at(p));
        }

        int firstUnlawful() {
            for (int p = 0; p < PEOPLE * PEOPLE; p++) {
                if (isUnlawful(p)) {
                    return p / PEOPLE * 10 + p % PEOPLE;
                }
            }
            return NOT;
        }

        int rise() {
            int more = 0;
            for (int p = 0; p < PEOPLE * PEOPLE; p++) {
                if (isUnlawful(p)) {
                    int next = laws.leastFrom(ledger.at(p));
                    if (next == NOT) {
                        return NOT;
                    }
                    more += next - ledger.at(p);
                }
            }
            return more;
        }

        int cancelAll() {
            int times = 0;
            // Each time at least one of the debts comes to 0, so there are no more times than debts.
            while (times < PEOPLE * PEOPLE && cancelGreatest()) {
                times++;
            }
            return times;
        }

        private boolean cancelGreatest() {
            int greatest = 0, a = 0, b = 0, c = 0;
            for (int abc = 0; abc < PEOPLE * PEOPLE * PEOPLE; abc++) {
                int first = abc / (PEOPLE * PEOPLE), second = abc / PEOPLE % PEOPLE, last = abc % PEOPLE;
                int least = Math.min(of(first, second), Math.min(of(second, last), of(last, first)));
                if (least > greatest) {
                    greatest = least;
                    a = first;
                    b = second;
                    c = last;
                }
            }
            if (greatest > 0) {
                takeOff(a, b, greatest);
                takeOff(b, c, greatest);
                takeOff(c, a, greatest);
            }
            return greatest > 0;
        }

        private void takeOff(int a, int b, int v) {
            ledger.become(place(a, b), of(a, b) - v);
        }

        int payments(boolean lawfulAlone) {
            for (int one = 0; one < PEOPLE; one++) {
                nets[one] = net(one);
            }
            int all = 0, lawfulOnes = 0;
            // Each payment settles one of two at least.
            for (; all < PEOPLE; all++) {
                int paid = pay();
                if (paid == 0) {
                    break;
                }
                if (laws.isLawful(paid)) {
                    lawfulOnes++;
                }
            }
            return lawfulAlone ? lawfulOnes : all;
        }

        private int pay() {
            int from = 0, to = 0;
            for (int one = 1; one < PEOPLE; one++) {
                if (nets[one] < nets[from]) {
                    from = one;
                }
                if (nets[one] > nets[to]) {
                    to = one;
                }
            }
            int paid = Math.min(-nets[from], nets[to]);
            nets[from] += paid;
            nets[to] -= paid;
            return paid;
        }
    }

    /** THE TAPE, and a TEXT on it as steps: a number stands for itself, a sign for its byte below 0. */
    private static final class Reader {
        static final int LONGEST = 120;
        /** A - ahead of an O, so that it is not taken for the one between two. */
        static final int NEGATE = '~';
        private static final int MOST_OPEN = 6, MOST_DIGITS = 4, END = -1, NO_FAULT = -1, COMPARES = 2, RANKS = 5;

        private final int[] tape = new int[LONGEST];
        private final int[] steps = new int[LONGEST + 1];
        private int length, at, written, fault;

        int length() {
            return length;
        }

        int feedBytes(int n, int v) {
            if (length + n > LONGEST) {
                return FULL;
            }
            for (int i = 0; i < n; i++) {
                tape[length] = v >> 8 * i & 255;
                length++;
            }
            return length;
        }

        int written() {
            return written;
        }

        int step(int i) {
            return steps[i];
        }

        /** Empties the tape: the FAULT, or -1. */
        int readText() {
            at = 0;
            written = 0;
            fault = NO_FAULT;
            readLine();
            for (int i = 0; i < LONGEST && takes(';'); i++) {
                readLine();
            }
            if (fault == NO_FAULT && at < length) {
                fault = at;
            }
            length = 0;
            return fault;
        }

        private void readLine() {
            readRank(0, 0);
            if (takes('?')) {
                write(-'?');
                readRank(0, 0);
            }
            write(-';');
        }

        /** E, A, B, S and P are alike but for their signs; a rank binds closer than those ahead of it. */
        private void readRank(int rank, int open) {
            if (rank == RANKS) {
                readOperand(open);
                return;
            }
            readRank(rank + 1, open);
            int most = rank == COMPARES ? 1 : LONGEST;
            for (int i = 0; i < most && fault == NO_FAULT && rankOf(ahead()) == rank; i++) {
                int sign = ahead();
                at++;
                readRank(rank + 1, open);
                write(-sign);
            }
        }

        private static int rankOf(int sign) {
            switch (sign) {
                case '|': return 0;
                case '&': return 1;
                case '<': case '=': case '>': return COMPARES;
                case '+': case '-': return 3;
                case '*': case '/': case '%': return 4;
                default: return RANKS;
            }
        }

        private void readOperand(int open) {
            int sign = ahead();
            if (sign >= '0' && sign <= '9') {
                readNumber();
            } else if (isName(sign)) {
                at++;
                write(-sign);
            } else if ((sign == '(' || sign == '!' || sign == '-') && open < MOST_OPEN) {
                at++;
                readOpened(sign, open + 1);
            } else {
                fault = at;
            }
        }

        private void readOpened(int sign, int open) {
            if (sign != '(') {
                readOperand(open);
                write(sign == '-' ? -NEGATE : -sign);
                return;
            }
            readRank(0, open);
            if (!takes(')') && fault == NO_FAULT) {
                fault = at;
            }
        }

        private static boolean isName(int sign) {
            return sign == 'p' || sign == 'g' || sign == 'n' || sign == 't' || sign == 'h';
        }

        private void readNumber() {
            int number = 0;
            for (int i = 0; i < MOST_DIGITS && ahead() >= '0' && ahead() <= '9'; i++) {
                number = number * 10 + ahead() - '0';
                at++;
            }
            write(number);
        }

        private int ahead() {
            return at < length ? tape[at] : END;
        }

        private boolean takes(int sign) {
            if (fault != NO_FAULT || ahead() != sign) {
                return false;
            }
            at++;
            return true;
        }

        private void write(int step) {
            if (written < steps.length) {
                steps[written] = step;
                written++;
            }
        }
    }

    /** Chooses among lawful prices by what they bring. */
    private static final class Seller {
        static final int APART = 2000;

        private final Laws laws;
        private final int[] steps = new int[Reader.LONGEST + 1];
        private final int[] stack = new int[Reader.LONGEST + 1];
        private int length, high;
        private int price, brings;

        Seller(Laws laws) {
            this.laws = laws;
            // Without a text it is as with the text p.
            steps[0] = -'p';
            steps[1] = -';';
            length = 2;
        }

        void learn(Reader reader) {
            length = Math.min(reader.written(), steps.length);
            for (int i = 0; i < length; i++) {
                steps[i] = reader.step(i);
            }
        }

        int price() {
            return price;
        }

        int brings() {
            return brings;
        }

        boolean choose(int a, int b) {
            int last = laws.greatestTo(a - 1), many = 0;
            for (int p = a; p <= b; p++) {
                if (laws.isLawful(p)) {
                    many++;
                    int brought = workOut(p, last == NOT ? 0 : p - last, many);
                    if (many == 1 || brought > brings) {
                        price = p;
                        brings = brought;
                    }
                    last = p;
                }
            }
            return many > 0;
        }

        private int workOut(int p, int g, int n) {
            high = 0;
            boolean counts = true;
            for (int i = 0; i < length; i++) {
                int step = steps[i];
                if (step >= 0) {
                    push(step);
                } else if (step == -'?') {
                    counts = pop() != 0;
                } else if (step != -';') {
                    takeStep(-step, p, g, n);
                } else if (counts) {
                    return pop();
                } else {
                    counts = true;
                    high = 0;
                }
            }
            return 0;
        }

        private void takeStep(int sign, int p, int g, int n) {
            switch (sign) {
                case 'p': push(p); break;
                case 'g': push(g); break;
                case 'n': push(n); break;
                case 't': push(p % 10); break;
                case 'h': push(p / 100); break;
                case '!': push(oneIf(pop() == 0)); break;
                case Reader.NEGATE: push(-pop()); break;
                default:
                    int right = pop(), left = pop();
                    push(joined(left, sign, right));
            }
        }

        private static int joined(int left, int sign, int right) {
            switch (sign) {
                case '|': return oneIf(left != 0 || right != 0);
                case '&': return oneIf(left != 0 && right != 0);
                case '<': return oneIf(left < right);
                case '=': return oneIf(left == right);
                case '>': return oneIf(left > right);
                case '+': return left + right;
                case '-': return left - right;
                case '*': return left * right;
                case '/': return right == 0 ? 0 : left / right;
                case '%': return right == 0 ? 0 : left % right;
                default: return 0;
            }
        }

        private static int oneIf(boolean holds) {
            return holds ? 1 : 0;
        }

        private void push(int v) {
            if (high < stack.length) {
                stack[high] = v;
                high++;
            }
        }

        private int pop() {
            if (high == 0) {
                return 0;
            }
            high--;
            return stack[high];
        }
    }

    /** PAYMENTS of KINDS, whose ACTS run the bodies of their own KIND or of one above. */
    private static final class Payments {
        static final int KINDS = 8;
        private static final int MOST = 50, TRACED = 24, ACTS = 4, DEEPEST = 20;
        private static final int PAYS = 0, OWES = 1, PARTS = 2, TELLS = 3;
        private static final int[] ABOVE = {-1, 0, 0, 2, 1, 0, 5, 0};
        /** The numbers of a KIND's own bodies (pays, owes, parts, tells); 0: none. PAYMENT has those of its interfaces. */
        private static final int[] OWN = {
            1, 10, 11, 2,
            20, 0, 0, 0,
            0, 30, 0, 0,
            0, 41, 40, 0,
            0, 0, 50, 0,
            60, 0, 0, 0,
            0, 0, 0, 70,
            0, 80, 0, 81,
        };

        private final int[] kinds = new int[MOST];
        private final int[] trace = new int[TRACED];
        private int size, ran, self;

        int size() {
            return size;
        }

        int ran() {
            return ran;
        }

        int traced(int i) {
            return i >= 0 && i < TRACED && i < ran ? trace[i] : BAD;
        }

        int add(int kind) {
            if (size == MOST) {
                return FULL;
            }
            kinds[size] = kind;
            size++;
            return size - 1;
        }

        int kindOf(int body) {
            return kinds[body];
        }

        boolean isUnder(int kind, int k) {
            int now = kind;
            for (int i = 0; i < KINDS && now >= 0; i++) {
                if (now == k) {
                    return true;
                }
                now = ABOVE[now];
            }
            return false;
        }

        int perform(int body, int act, int x) {
            ran = 0;
            if (!within(body, 0, size - 1) || !within(act, 0, ACTS - 1)) {
                return 0;
            }
            self = body;
            return run(act, kinds[body], x, 0);
        }

        private int run(int act, int kind, int x, int depth) {
            if (depth > DEEPEST) {
                return 0;
            }
            int holder = holder(act, kind), own = kinds[self], up = ABOVE[holder], d = depth + 1;
            int number = OWN[holder * ACTS + act];
            note(number);
            switch (number) {
                case 1: return x + self;
                case 2: return run(OWES, own, x, d) - run(PARTS, own, 1, d);
                case 10: return run(PAYS, own, x, d) * 2;
                case 11: return x ^ self;
                case 20: return run(PAYS, up, x, d) + 3;
                case 30: return -run(OWES, up, x, d);
                case 40: return run(PARTS, up, x, d) * 3;
                case 41: return run(OWES, up, x + 1, d);
                case 50: return run(PARTS, up, x, d) - run(PAYS, own, 2, d);
                case 60: return run(PAYS, up, x, d) * 2;
                case 70: return run(TELLS, up, x, d) ^ 5;
                case 80: return run(OWES, up, x, d) + run(PARTS, own, 2, d);
                case 81: return run(TELLS, up, x, d) - 1;
                default: return 0;
            }
        }

        private static int holder(int act, int kind) {
            int now = kind;
            for (int i = 0; i < KINDS && now > 0 && OWN[now * ACTS + act] == 0; i++) {
                now = ABOVE[now];
            }
            return Math.max(now, 0);
        }

        private void note(int number) {
            if (ran < TRACED) {
                trace[ran] = number;
            }
            ran++;
        }
    }

    /** SHELVES with a PAYMENT, a ROW, or nothing. */
    private static final class Shelves {
        static final int SORTS = 5, LONGEST = 60;
        private static final int MANY = 6, LONGS = 3, NOTHING = -1, PAYMENT = 5;
        private static final long LOOKED_TO = 1000000000000L;

        private final Laws laws;
        private final Payments payments;
        /** NOTHING, PAYMENT, or a row's sort. */
        private final int[] holds = {NOTHING, NOTHING, NOTHING, NOTHING, NOTHING, NOTHING};
        private final int[] body = new int[MANY];
        private final int[] length = new int[MANY];
        private final long[][] rows = new long[MANY][LONGEST];

        Shelves(Laws laws, Payments payments) {
            this.laws = laws;
            this.payments = payments;
        }

        static boolean isShelf(int shelf) {
            return within(shelf, 0, MANY - 1);
        }

        private boolean isRow(int shelf) {
            return holds[shelf] != NOTHING && holds[shelf] != PAYMENT;
        }

        int holdPayment(int shelf, int number) {
            holds[shelf] = number < 0 ? NOTHING : PAYMENT;
            body[shelf] = number;
            return 1;
        }

        int holdRow(int shelf, int sort, int n) {
            holds[shelf] = sort;
            length[shelf] = n;
            Arrays.fill(rows[shelf], 0);
            return 1;
        }

        /** The refusal of a place on a shelf; 0: none. */
        private int refusal(int shelf, int i) {
            if (!isRow(shelf)) {
                return holds[shelf] == NOTHING ? NOTHING_THERE : OTHER_KIND;
            }
            return within(i, 0, length[shelf] - 1) ? 0 : NO_PLACE;
        }

        int write(int shelf, int i, long v) {
            int refusal = refusal(shelf, i);
            if (refusal != 0) {
                return refusal;
            }
            rows[shelf][i] = lowest(holds[shelf], v);
            return 1;
        }

        private static long lowest(int sort, long v) {
            switch (sort) {
                case 0: return (byte) v;
                case 1: return (short) v;
                case 2: return (int) v;
                case LONGS: return v;
                default: return v == 0 ? 0 : 1;
            }
        }

        long read(int shelf, int i) {
            return refusal(shelf, i) == 0 ? rows[shelf][i] : Long.MIN_VALUE;
        }

        int copy(int shelf, int i, int other, int j, int n) {
            if (holds[shelf] == NOTHING || holds[other] == NOTHING) {
                return NOTHING_THERE;
            }
            if (!isRow(shelf) || holds[shelf] != holds[other]) {
                return OTHER_KIND;
            }
            if (!hasStretch(shelf, i, n) || !hasStretch(other, j, n)) {
                return NO_PLACE;
            }
            System.arraycopy(rows[shelf], i, rows[other], j, n);
            return n;
        }

        private boolean hasStretch(int shelf, int i, int n) {
            return n >= 0 && i >= 0 && i <= length[shelf] && n <= length[shelf] - i;
        }

        int kindUnder(int shelf, int k) {
            if (holds[shelf] == NOTHING) {
                return NOTHING_THERE;
            }
            if (isRow(shelf) || !payments.isUnder(payments.kindOf(body[shelf]), k)) {
                return OTHER_KIND;
            }
            return payments.kindOf(body[shelf]);
        }

        int firstUnlawful(int shelf, int i, int n) {
            if (isRow(shelf) && holds[shelf] != LONGS) {
                return OTHER_KIND;
            }
            for (int place = i; place - i < n; place++) {
                int refusal = refusal(shelf, place);
                if (refusal != 0) {
                    return refusal;
                }
                long sum = rows[shelf][place];
                if (sum > LOOKED_TO || !laws.isLawful(sum)) {
                    return place;
                }
            }
            return i + n;
        }
    }
}
