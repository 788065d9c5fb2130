import java.util.NoSuchElementException;

/**
 * A WellCourt whose calls are counted: what an object answers behind its 512th call is free, so no
 * test may ask for it.
 */
final class Court implements Face {
    static final int MOST_CALLS = 512;

    private final WellCourt court = new WellCourt();
    private int calls = 0;

    private WellCourt asked() {
        calls++;
        if (calls > MOST_CALLS) {
            throw new IllegalStateException("the test asks one object for more than 512 calls");
        }
        return court;
    }

    int calls() {
        return calls;
    }

    @Override
    public int feed(int a, int b, int c, int d, int e) {
        return asked().feed(a, b, c, d, e);
    }

    @Override
    public boolean end(int n) {
        return asked().end(n);
    }

    @Override
    public boolean well(int w, int cap, int rate, int level) {
        return asked().well(w, cap, rate, level);
    }

    @Override
    public int rights() {
        return asked().rights();
    }

    @Override
    public int fault() {
        return asked().fault();
    }

    @Override
    public boolean next() {
        return asked().next();
    }

    @Override
    public int water(int w, int what) {
        return asked().water(w, what);
    }

    @Override
    public int owner(int w, int day) {
        return asked().owner(w, day);
    }

    @Override
    public int may(int w, int clan) {
        return asked().may(w, clan);
    }

    @Override
    public int lend(int w, int day, int clan) {
        return asked().lend(w, day, clan);
    }

    @Override
    public int draw(int w, int clan, int amount) {
        return asked().draw(w, clan, amount);
    }

    @Override
    public int take(int w, int clan, int amount) {
        return asked().take(w, clan, amount);
    }

    @Override
    public boolean report(int k) {
        return asked().report(k);
    }

    @Override
    public long drawn(int k, int what) {
        try {
            return asked().drawn(k, what);
        } catch (NoSuchElementException e) {
            Check.due("what drawn throws", e.getClass().getName(), "java.util.NoSuchElementException");
            return THROWS;
        }
    }

    @Override
    public int judge(int clan, int from, int to, int day, int what) {
        return asked().judge(clan, from, to, day, what);
    }

    @Override
    public boolean herd(int h, int clan, int draw, int last, int w) {
        return asked().herd(h, clan, draw, last, w);
    }

    @Override
    public boolean drop(int h) {
        return asked().drop(h);
    }

    @Override
    public boolean way(int u, int v, int days) {
        return asked().way(u, v, days);
    }

    @Override
    public long plan(int n, int looks) {
        try {
            return asked().plan(n, looks);
        } catch (IllegalArgumentException e) {
            Check.due("what plan throws", e.getClass().getName(), "java.lang.IllegalArgumentException");
            return THROWS;
        }
    }

    @Override
    public int step(int h, int day) {
        return asked().step(h, day);
    }

    @Override
    public int far() {
        return asked().far();
    }

    @Override
    public int count(int what) {
        return asked().count(what);
    }

    /** A new court with these rights, which must be whole. */
    static Court with(String text) {
        Court x = new Court();
        Check.due("rights of " + text, x.read(text) >= 0, true);
        return x;
    }
}
