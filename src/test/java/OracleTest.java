/**
 * Runs of calls, the same on a FormulaVisitors and on an Oracle; all answers must be the same. The
 * runs are drawn by a generator of fixed seeds, so that they are the same each time.
 */
public final class OracleTest {
    private static final int RUNS = 1500, CALLS = 512;
    private static int wrong = 0;

    private long seed;
    private final StringBuilder history = new StringBuilder();
    private FormulaVisitors x = new FormulaVisitors();
    private final Oracle o = new Oracle();

    private OracleTest(long seed) { this.seed = seed * 7919 + 17; }

    private int draw(int n) {
        seed = seed * 6364136223846793005L + 1442695040888963407L;
        return (int) ((seed >>> 33) % n);
    }

    private int of(int... all) { return all[draw(all.length)]; }

    private int anyInt() {
        return of(draw(20), draw(20) - 10, draw(2000) - 1000, (int) (seed >>> 20), Integer.MAX_VALUE,
                Integer.MIN_VALUE, Integer.MAX_VALUE - draw(50), -1, 0, 1);
    }

    /** Mostly 0 .. n - 1, now and then one that is none such. */
    private int index(int n) {
        return draw(30) == 0 ? of(-1, n, n + 1, Integer.MAX_VALUE, Integer.MIN_VALUE, anyInt()) : draw(n);
    }

    private int formula() {
        if (draw(3) > 0) return draw(4);
        return index(12);
    }

    private boolean due(String call, long got, long want) {
        history.append(call).append(" -> ").append(got).append('\n');
        if (got == want) return true;
        wrong++;
        if (wrong <= 3) System.out.println(history + "due is " + want);
        return false;
    }

    // ---- texts

    private void choice(StringBuilder s, int deep) {
        sum(s, deep);
        if (draw(4) == 0) {
            s.append('?');
            sum(s, deep);
            s.append(':');
            sum(s, deep);
        }
    }

    private void sum(StringBuilder s, int deep) {
        term(s, deep);
        for (int i = draw(3); i > 0; i--) {
            s.append(draw(2) == 0 ? '+' : '-');
            term(s, deep);
        }
    }

    private void term(StringBuilder s, int deep) {
        pow(s, deep);
        for (int i = draw(4) / 2; i > 0; i--) {
            s.append('*');
            pow(s, deep);
        }
    }

    private void pow(StringBuilder s, int deep) {
        one(s, deep);
        if (draw(4) == 0) s.append('^').append(draw(10));
    }

    private void one(StringBuilder s, int deep) {
        if (draw(12) == 0) s.append(draw(2) == 0 ? ' ' : '\n');
        switch (deep <= 0 ? draw(2) : draw(6)) {
            case 0: s.append(draw(3) == 0 ? draw(10000) : draw(4)); break;
            case 1: s.append((char) ('a' + (draw(3) > 0 ? draw(2) : draw(8)))); break;
            case 2: s.append('-'); one(s, deep - 1); break;
            case 3: s.append('('); choice(s, deep - 1); s.append(')'); break;
            case 4: s.append('['); choice(s, deep - 1); s.append(']'); break;
            default: s.append((char) ('a' + draw(3))); break;
        }
    }

    private String aText() {
        StringBuilder s = new StringBuilder();
        for (int tries = 0; tries < 20; tries++) {
            s.setLength(0);
            choice(s, draw(6));
            if (s.length() <= 120) break;
        }
        if (s.length() > 120) s.setLength(120);
        for (int i = draw(6) == 0 ? 1 + draw(2) : 0; i > 0; i--) spoil(s);
        return s.toString();
    }

    private void spoil(StringBuilder s) {
        String signs = "()[]+-*^?:  az9i01#A";
        char c = draw(10) == 0 ? (char) draw(256) : signs.charAt(draw(signs.length()));
        int at = draw(s.length() + 1);
        if (draw(3) == 0 && at < s.length()) s.deleteCharAt(at);
        else if (draw(2) == 0 && at < s.length()) s.setCharAt(at, c);
        else if (s.length() < 120) s.insert(at, c);
    }

    private boolean writeText(int formula) {
        String s = aText();
        for (int i = 0; i < s.length(); i += 5) {
            int n = Math.min(5, s.length() - i);
            int[] v = new int[5];
            for (int j = 0; j < n; j++) v[j] = s.charAt(i + j);
            if (!aFeed(n, v[0], v[1], v[2], v[3], v[4])) return false;
        }
        return aCall("text(" + formula + ")", x.text(formula), o.text(formula));
    }

    private boolean aFeed(int n, int a, int b, int c, int d, int e) {
        String call = "feed(" + n + "," + a + "," + b + "," + c + "," + d + "," + e + ")";
        return aCall(call, x.feed(n, a, b, c, d, e), o.feed(n, a, b, c, d, e));
    }

    private int calls = 0;

    private boolean aCall(String call, long got, long want) {
        calls++;
        return due(call, got, want);
    }

    // ---- a run

    private boolean step() {
        switch (draw(26)) {
            case 0: case 1: return writeText(draw(5) > 0 ? draw(4) : draw(12));
            case 2: return someFeed();
            case 3: { int n = index(8), v = anyInt(); return aCall("let(" + n + "," + v + ")", x.let(n, v), o.let(n, v)); }
            case 4: case 5: case 6: return someTurn();
            case 7: { int f = formula(), k = draw(10) == 0 ? anyInt() : draw(40), w = draw(20) == 0 ? anyInt() : draw(5);
                return aCall("node(" + f + "," + k + "," + w + ")", x.node(f, k, w), o.node(f, k, w)); }
            case 8: { int f = formula(), k = draw(10) == 0 ? anyInt() : draw(20), w = index(8);
                return aCall("taken(" + f + "," + k + "," + w + ")", x.taken(f, k, w), o.taken(f, k, w)); }
            case 9: { int f = formula(); return aCall("worth(" + f + ")", x.worth(f), o.worth(f)); }
            case 10: { int f = formula(), k = index(9); return aCall("met(" + f + "," + k + ")", x.met(f, k), o.met(f, k)); }
            case 11: { int f = formula(), n = draw(10) == 0 ? of(-1, 9999, 10000, anyInt()) : draw(60);
                return aCall("purse(" + f + "," + n + ")", x.purse(f, n), o.purse(f, n)); }
            case 12: return allPrinted();
            case 13: { int f = formula(), k = index(6); return aCall("measure(" + f + "," + k + ")", x.measure(f, k), o.measure(f, k)); }
            case 14: return allCoded();
            case 15: { int f = formula(); return aCall("run(" + f + ")", x.run(f), o.run(f)); }
            case 16: { int f = formula(), g = formula(), w = index(3);
                return aCall("alike(" + f + "," + g + "," + w + ")", x.alike(f, g, w), o.alike(f, g, w)); }
            case 17: { int f = formula(), n = index(8); return aCall("degree(" + f + "," + n + ")", x.degree(f, n), o.degree(f, n)); }
            case 18: return someSought();
            case 19: { int f = formula(), s = anyInt(); return aCall("drawn(" + f + "," + s + ")", x.drawn(f, s), o.drawn(f, s)); }
            case 20: { int f = formula(), s = anyInt(), m = draw(10) == 0 ? of(0, 21, anyInt()) : 1 + draw(20), w = anyInt(), p = index(2);
                return aCall("chance(" + f + "," + s + "," + m + "," + w + "," + p + ")", x.chance(f, s, m, w, p), o.chance(f, s, m, w, p)); }
            case 21: case 22: return someTelling();
            case 23: return someSheet();
            case 24: return draw(2) == 0 ? aCall("image()", x.image(), o.image()) : aCall("back()", x.back(), o.back());
            default: { int w = draw(3) == 0 ? anyInt() : draw(2) == 0 ? draw(3) : 8 + draw(12);
                return aCall("count(" + w + ")", x.count(w), o.count(w)); }
        }
    }

    private boolean someFeed() {
        if (draw(4) > 0) return true;
        return aFeed(draw(3) == 0 ? anyInt() : draw(7), draw(258) - 1, draw(258) - 1, draw(256), draw(256), draw(258) - 1);
    }

    private boolean someTurn() {
        int f = formula(), by = formula();
        int what = draw(15) == 0 ? anyInt() : of(0, 1, 1, 10 + draw(3), 10 + draw(9), 20 + draw(3), 20 + draw(3), 20 + draw(9), 30, 30);
        if (what == 0 && draw(3) > 0) return true;
        return aCall("turn(" + f + "," + what + "," + by + ")", x.turn(f, what, by), o.turn(f, what, by));
    }

    private boolean allPrinted() {
        int f = formula(), k = draw(3) == 0 ? anyInt() : -1;
        int size = x.print(f, k);
        if (!aCall("print(" + f + "," + k + ")", size, o.print(f, k))) return false;
        int from = draw(Math.max(1, size));
        for (int i = from; i < Math.min(from + 8, size + 1) && k == -1; i++) {
            if (!aCall("print(" + f + "," + i + ")", x.print(f, i), o.print(f, i))) return false;
        }
        return true;
    }

    private boolean allCoded() {
        int f = formula(), k = draw(2) == 0 ? of(-1, -2, -3, -4, anyInt()) : -1;
        int size = x.code(f, k);
        if (!aCall("code(" + f + "," + k + ")", size, o.code(f, k))) return false;
        int from = draw(Math.max(1, size));
        for (int i = from; i < Math.min(from + 8, size + 1) && k == -1; i++) {
            if (!aCall("code(" + f + "," + i + ")", x.code(f, i), o.code(f, i))) return false;
        }
        return true;
    }

    private boolean someSought() {
        int f = formula(), name = index(8), low = draw(2) == 0 ? -draw(30) : anyInt();
        int n = draw(10) == 0 ? of(0, 101, anyInt()) : 1 + draw(100), what = index(2);
        int w = draw(3) == 0 ? anyInt() : (int) o.worth(f) + draw(3);
        String call = "sought(" + f + "," + name + "," + low + "," + n + "," + w + "," + what + ")";
        return aCall(call, x.sought(f, name, low, n, w, what), o.sought(f, name, low, n, w, what));
    }

    private boolean someTelling() {
        int sheet = draw(20) == 0 ? anyInt() : draw(4), f = formula(), name = draw(2) == 0 ? 0 : index(8);
        if (draw(3) == 0) {
            int n = draw(10) == 0 ? of(-1, 21, anyInt()) : draw(21);
            return aCall("film(" + sheet + "," + f + "," + name + "," + n + ")", x.film(sheet, f, name, n), o.film(sheet, f, name, n));
        }
        int what = draw(20) == 0 ? anyInt() : of(0, 1, 2, 10 + draw(4), 100 + draw(4), 50, 51, 140, 141, 9, 3, 99);
        return aCall("tells(" + sheet + "," + f + "," + name + "," + what + ")", x.tells(sheet, f, name, what), o.tells(sheet, f, name, what));
    }

    private boolean someSheet() {
        int s = index(4), t = index(4);
        switch (draw(3)) {
            case 0: {
                int sort = index(2) - (draw(5) == 0 ? 1 : 0), n = draw(8) == 0 ? of(-1, 40, 41, anyInt()) : draw(41);
                return aCall("sheet(" + s + "," + sort + "," + n + ")", x.sheet(s, sort, n), o.sheet(s, sort, n));
            }
            case 1: {
                int i = draw(10) == 0 ? anyInt() : draw(12), v = anyInt();
                return aCall("cell(" + s + "," + i + "," + v + ")", x.cell(s, i, v), o.cell(s, i, v));
            }
            default: {
                int i = draw(10) == 0 ? anyInt() : draw(12), j = draw(10) == 0 ? anyInt() : draw(12), n = draw(10) == 0 ? anyInt() : draw(12);
                return aCall("copy(" + s + "," + i + "," + t + "," + j + "," + n + ")", x.copy(s, i, t, j, n), o.copy(s, i, t, j, n));
            }
        }
    }

    private void go() {
        while (calls < CALLS) {
            if (!step()) return;
        }
    }

    public static void main(String[] args) {
        for (int i = 0; i < RUNS; i++) new OracleTest(i).go();
        System.out.println(wrong == 0 ? "all runs agree with the oracle" : wrong + " runs don't agree with the oracle");
        if (wrong != 0) System.exit(1);
    }
}
