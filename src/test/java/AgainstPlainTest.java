/** Long runs of mixed calls, each answered by the class and by Plain; the same runs at every start. */
public final class AgainstPlainTest {
    private static final int[] EDGES = {Integer.MIN_VALUE, Integer.MAX_VALUE, -1, 0, 1, 2, -2, 1000000, 1000000001};
    private static long seed;
    private LawfulSums x;
    private Plain y;

    public static void main(String[] args) {
        for (int run = 0; run < 1000; run++) {
            seed = 7919L * run + 11;
            new AgainstPlainTest().run(run);
        }
        for (int law = 0; law < 4; law++) {
            new AgainstPlainTest().all(law);
        }
        Due.end("AgainstPlainTest");
    }

    /** 0 .. n less 1. */
    private static int any(int n) {
        seed = seed * 6364136223846793005L + 1442695040888963407L;
        return (int) ((seed >>> 33) % n);
    }

    /** From a to b; now and then one beside, or an edge of all ints. */
    private static int from(int a, int b) {
        int lot = any(60);
        if (lot == 0) return EDGES[any(EDGES.length)];
        if (lot == 1) return a - 1;
        if (lot == 2) return b + 1;
        if (lot == 3) return a;
        if (lot == 4) return b;
        return a + any(b - a + 1);
    }

    private void run(int run) {
        x = new LawfulSums();
        y = new Plain();
        // A run keeps to some sorts of calls, so that states grow deep.
        int sorts = run % 6;
        for (int call = 0; call < 512; call++) {
            int sort = sorts == 0 ? 1 + any(5) : sorts;
            String name = "run " + run + " call " + call + ": ";
            switch (sort) {
                case 1: laws(name); break;
                case 2: sums(name); break;
                case 3: sellers(name); break;
                case 4: debts(name); break;
                default: acts(name);
            }
        }
    }

    /** Every sum of some calls; an object of its own for each few hundred of them. */
    private void all(int law) {
        y = new Plain();
        y.force(law);
        for (int n = 0; n <= 2001; n++) {
            if (n % 20 == 0) {
                x = new LawfulSums();
                x.force(law);
            }
            String of = "law " + law + " " + n + " ";
            Due.same(of + "lawful", x.lawful(0, n), y.lawful(0, n));
            Due.same(of + "change", x.change(n), y.change(n));
            Due.same(of + "third", x.third(n), y.third(n));
            Due.same(of + "nearest", x.next(n, 2), y.next(n, 2));
            for (int i = -1; i < 4; i++) {
                Due.same(of + "fewest " + i, x.fewest(n, i), y.fewest(n, i));
            }
            for (int k = 2; k < 5 && n <= 130; k++) {
                for (int i = -1; i < k; i++) {
                    Due.same(of + "shares " + k + " " + i, x.shares(n, k, i), y.shares(n, k, i));
                }
            }
        }
    }

    private void force(String name) {
        int law = from(0, 3);
        Due.same(name + "force " + law, x.force(law), y.force(law));
    }

    private void laws(String name) {
        if (any(8) == 0) force(name);
        int hi = any(3) == 0 ? 0 : from(0, any(6) == 0 ? 999999 : 300), lo = from(0, 999999);
        int n = from(2, any(4) == 0 ? 1000000000 : 3000), i = from(-1, 8), g = from(2, any(2) == 0 ? 30 : 2000);
        String of = name + hi + " " + lo + " " + n + " " + i + " " + g + " ";
        switch (any(5)) {
            case 0: Due.same(of + "lawful", x.lawful(hi, lo), y.lawful(hi, lo)); break;
            case 1: Due.same(of + "part", x.part(hi, lo), y.part(hi, lo)); break;
            case 2: Due.same(of + "parts", x.parts(n, i), y.parts(n, i)); break;
            case 3: Due.same(of + "proof", x.proof(n), y.proof(n)); break;
            default: Due.same(of + "look", x.look(n, g), y.look(n, g));
        }
    }

    private void sums(String name) {
        if (any(8) == 0) force(name);
        int n = from(1, 300), i = from(-1, 4), k = from(1, any(3) == 0 ? 5 : 3), w = from(0, 2);
        int a = from(0, 3000), b = any(10) == 0 ? from(0, 3000) : a + any(600);
        String of = name + n + " " + i + " " + k + " " + w + " " + a + " " + b + " ";
        switch (any(11)) {
            case 0: Due.same(of + "fewest", x.fewest(n, i), y.fewest(n, i)); break;
            case 1: counted(of, k); break;
            case 2: coin(of); break;
            case 3: mint(of); break;
            case 4: case 5: coins(of); break;
            case 6: Due.same(of + "change", x.change(n), y.change(n)); break;
            case 7: Due.same(of + "third", x.third(a), y.third(a)); break;
            case 8: Due.same(of + "next", x.next(a, w), y.next(a, w)); break;
            case 9: Due.same(of + "many", x.many(a, b), y.many(a, b)); break;
            default: Due.same(of + "gap", x.gap(a, b, w), y.gap(a, b, w));
        }
    }

    private void counted(String of, int k) {
        int n = from(0, k > 3 ? 60 : 200);
        Due.same(of + n + " counted", x.counted(n, k), y.counted(n, k));
    }

    private void coin(String of) {
        int worth = any(3) == 0 ? from(1, 999) : from(1, 20), many = from(0, 9);
        if (any(3) == 0 && x.count(1) < 6) Due.same(of + "coin", x.coin(worth, many), y.coin(worth, many));
    }

    private void mint(String of) {
        int coin = from(0, 5), what = from(0, 1), v = what == 0 && any(4) == 0 ? from(1, 999) : from(0, 9);
        Due.same(of + "mint", x.mint(coin, what, v), y.mint(coin, what, v));
    }

    private void coins(String of) {
        int n = any(4) == 0 ? from(0, 2000) : from(0, 150), i = from(-1, 5);
        Due.same(of + n + " " + i + " coins", x.coins(n, i), y.coins(n, i));
    }

    private void text(String name) {
        StringBuilder text = new StringBuilder();
        line(text, 1 + any(4));
        while (any(3) == 0) {
            text.append(';');
            line(text, 1 + any(3));
        }
        if (any(3) == 0) {
            int at = any(text.length());
            String signs = "()!-|&<=>+*/%?;pgnth0123456789 x";
            if (any(2) == 0) text.setCharAt(at, signs.charAt(any(signs.length())));
            else if (any(2) == 0) text.insert(at, signs.charAt(any(signs.length())));
            else text.setLength(at);
        }
        for (int i = 0; i < text.length(); i++) {
            Due.same(name + "feed", x.feed(1, text.charAt(i) + 256 * any(1000)), y.feed(1, text.charAt(i)));
        }
        Due.same(name + text, x.seller(), y.seller());
    }

    private void line(StringBuilder text, int deep) {
        expression(text, deep, 0);
        if (any(2) == 0) {
            text.append('?');
            expression(text, deep, 0);
        }
    }

    private void expression(StringBuilder text, int deep, int rank) {
        String[] signs = {"|", "&", "<=>", "+-", "*/%"};
        if (rank == 5) {
            operand(text, deep);
            return;
        }
        expression(text, deep, rank + 1);
        for (int i = 0; i < 2 && any(5) == 0; i++) {
            text.append(signs[rank].charAt(any(signs[rank].length())));
            expression(text, deep - 1, rank + 1);
            if (rank == 2 && any(10) != 0) return;
        }
    }

    private void operand(StringBuilder text, int deep) {
        int lot = deep <= 0 ? any(5) : any(9);
        if (lot < 2) text.append(any(2) == 0 ? any(10) : any(10000));
        else if (lot < 5) text.append("pgnth".charAt(any(5)));
        else if (lot < 7) {
            text.append('(');
            expression(text, deep - 1, 0);
            text.append(')');
        } else {
            text.append(lot == 7 ? '!' : '-');
            operand(text, deep);
        }
    }

    private void sellers(String name) {
        if (any(8) == 0) force(name);
        int a = from(0, 3000), b = any(10) == 0 ? from(0, 6000) : a + any(60), w = from(0, 1), k = from(2, 4);
        int n = from(1, any(5) == 0 ? 200 : 90), i = from(-1, 4), v = any(4) * 3 + any(7);
        String of = name + a + " " + b + " " + w + " " + k + " " + n + " " + i + " ";
        switch (any(9)) {
            case 0: text(of); break;
            case 1: Due.same(of + "feed", x.feed(v, a), y.feed(v, a)); break;
            case 2: case 3: case 4: Due.same(of + "chosen", x.chosen(a, b, w), y.chosen(a, b, w)); break;
            case 5: Due.same(of + "rent", x.rent(a, k), y.rent(a, k)); break;
            case 6: Due.same(of + "tax", x.tax(a), y.tax(a)); break;
            case 7: Due.same(of + "rounded", x.rounded(a, w), y.rounded(a, w)); break;
            default: Due.same(of + "shares", x.shares(n, k, i), y.shares(n, k, i));
        }
    }

    private void debts(String name) {
        if (any(30) == 0) force(name);
        int ab = from(0, 7) * 10 + any(8), v = any(3) == 0 ? from(0, 9999) : from(0, 12);
        String of = name + ab + " " + v + " ";
        switch (any(20)) {
            case 0: Due.same(of + "judge", x.judge(), y.judge()); break;
            case 1: Due.same(of + "round", x.round(), y.round()); break;
            case 2: Due.same(of + "struck", x.struck(), y.struck()); break;
            case 3: Due.same(of + "settle", x.settle(v), y.settle(v)); break;
            case 4: Due.same(of + "settle 0", x.settle(0), y.settle(0)); break;
            case 5: Due.same(of + "settle 1", x.settle(1), y.settle(1)); break;
            case 6: case 7: Due.same(of + "undo", x.undo(), y.undo()); break;
            case 8: case 9: Due.same(of + "redo", x.redo(), y.redo()); break;
            case 10: Due.same(of + "net", x.owes(-ab / 7), y.owes(-ab / 7)); break;
            case 11: Due.same(of + "owes", x.owes(ab), y.owes(ab)); break;
            case 12: coin(of); break;
            case 13: mint(of); break;
            case 14: Due.same(of + "count", x.count(v), y.count(v)); break;
            default: Due.same(of + "debt", x.debt(ab, v), y.debt(ab, v));
        }
    }

    private void acts(String name) {
        if (any(30) == 0) force(name);
        int shelf = from(0, 5), other = from(0, 5), i = from(0, 7), j = from(0, 7), n = from(0, 8), k = from(0, 7);
        int body = any(4) == 0 ? from(0, 49) : any(3) - any(2), arg = any(2) == 0 ? from(-100, 100) : from(-1, 1);
        long v = any(3) == 0 ? any(40) : any(3) == 0 ? (long) arg << any(64) : any(2) * 1000000000000L + any(3);
        String of = name + shelf + " " + other + " " + i + " " + j + " " + n + " " + k + " " + body + " " + v + " ";
        switch (any(14)) {
            case 0: Due.same(of + "body", x.body(k), y.body(k)); break;
            case 1: case 2: Due.same(of + "act", x.act(body, i / 2, arg), y.act(body, i / 2, arg)); break;
            case 3: Due.same(of + "trace", x.trace(n), y.trace(n)); break;
            case 4: Due.same(of + "keep", x.keep(shelf, body), y.keep(shelf, body)); break;
            case 5: Due.same(of + "row", x.row(shelf, k - k / 6, n), y.row(shelf, k - k / 6, n)); break;
            case 6: Due.same(of + "row", x.row(shelf, 3, n), y.row(shelf, 3, n)); break;
            case 7: case 8: Due.same(of + "put", x.put(shelf, i, v), y.put(shelf, i, v)); break;
            case 9: Due.same(of + "element", x.element(shelf, i), y.element(shelf, i)); break;
            case 10: Due.same(of + "shift", x.shift(shelf, i / 2, other, j / 2, n), y.shift(shelf, i / 2, other, j / 2, n)); break;
            case 11: Due.same(of + "taken", x.taken(shelf, k), y.taken(shelf, k)); break;
            case 12: Due.same(of + "looked", x.looked(shelf, i, n), y.looked(shelf, i, n)); break;
            default: Due.same(of + "count", x.count(k), y.count(k));
        }
    }
}
