import java.util.List;

/** The KINDS of payments as Java's own classes, so that Java itself leads each act to its body. */
final class PlainActs {
    static final Class<?>[] KINDS = {Payment.class, Whole.class, Parts.class, Change.class, Third.class, Next.class, Told.class,
        Struck.class};

    private PlainActs() {
    }

    static Payment make(int kind, int n) {
        Payment p;
        switch (kind) {
            case 0: p = new Payment(); break;
            case 1: p = new Whole(); break;
            case 2: p = new Parts(); break;
            case 3: p = new Change(); break;
            case 4: p = new Third(); break;
            case 5: p = new Next(); break;
            case 6: p = new Told(); break;
            default: p = new Struck();
        }
        p.n = n;
        return p;
    }

    interface Noting {
        void note(int body);

        int number();
    }

    interface Pays extends Noting {
        default int pays(int x) { note(1); return x + number(); }
    }

    interface Tells extends Noting {
        int owes(int x);

        int parts(int x);

        default int tells(int x) { note(2); return owes(x) - parts(1); }
    }

    static class Payment implements Pays, Tells {
        int n;
        List<Integer> trace;

        public void note(int body) { trace.add(body); }

        public int number() { return n; }

        public int owes(int x) { note(10); return pays(x) * 2; }

        public int parts(int x) { note(11); return x ^ n; }
    }

    static class Whole extends Payment {
        @Override public int pays(int x) { note(20); return super.pays(x) + 3; }
    }

    static class Parts extends Payment {
        @Override public int owes(int x) { note(30); return -super.owes(x); }
    }

    static class Change extends Parts {
        @Override public int parts(int x) { note(40); return super.parts(x) * 3; }

        @Override public int owes(int x) { note(41); return super.owes(x + 1); }
    }

    static class Third extends Whole {
        @Override public int parts(int x) { note(50); return super.parts(x) - pays(2); }
    }

    static class Next extends Payment {
        @Override public int pays(int x) { note(60); return super.pays(x) * 2; }
    }

    static class Told extends Next {
        @Override public int tells(int x) { note(70); return super.tells(x) ^ 5; }
    }

    static class Struck extends Payment {
        @Override public int owes(int x) { note(80); return super.owes(x) + parts(2); }

        @Override public int tells(int x) { note(81); return super.tells(x) - 1; }
    }
}
