import java.math.BigInteger;
import java.util.ArrayList;
import java.util.HashSet;
import java.util.List;
import java.util.Set;

/**
 * The document told once more, as plainly as can be: trees of records and recursion, texts read from
 * a list of tokens. It shares no line with the class that it is there to check.
 */
final class Oracle {
    sealed interface Tree permits Num, Name, Neg, Sum, Product, Power, Pick, Square { }
    record Num(long v) implements Tree { }
    record Name(int name) implements Tree { }
    record Neg(Tree tree) implements Tree { }
    record Sum(Tree a, Tree b) implements Tree { }
    record Product(Tree a, Tree b) implements Tree { }
    record Power(Tree tree, int digit) implements Tree { }
    record Pick(Tree which, Tree one, Tree other) implements Tree { }
    record Square(Tree tree) implements Tree { }
    record Token(char kind, int place, int value) { }

    static final class Fault extends RuntimeException {
        final int place;
        Fault(int place) { super(null, null, false, false); this.place = place; }
    }

    Tree[] formulas = new Tree[12];
    int[] values = new int[8];
    Tree[] keptFormulas;
    int[] keptValues;
    StringBuilder tape = new StringBuilder();
    int[][] sheets = new int[4][];
    int[] sorts = new int[4];

    static boolean in(int v, int low, int high) { return v >= low && v <= high; }

    static List<Tree> parts(Tree t) {
        if (t instanceof Neg n) return List.of(n.tree);
        if (t instanceof Sum s) return List.of(s.a, s.b);
        if (t instanceof Product p) return List.of(p.a, p.b);
        if (t instanceof Power p) return List.of(p.tree);
        if (t instanceof Pick p) return List.of(p.which, p.one, p.other);
        if (t instanceof Square s) return List.of(s.tree);
        return List.of();
    }

    static int kind(Tree t) {
        if (t instanceof Num) return 0;
        if (t instanceof Name) return 1;
        if (t instanceof Neg) return 2;
        if (t instanceof Sum) return 3;
        if (t instanceof Product) return 4;
        if (t instanceof Power) return 5;
        return t instanceof Pick ? 6 : 7;
    }

    static void nodesInto(Tree t, List<Tree> all) {
        all.add(t);
        for (Tree p : parts(t)) nodesInto(p, all);
    }

    static List<Tree> nodes(Tree t) {
        List<Tree> all = new ArrayList<>();
        nodesInto(t, all);
        return all;
    }

    /** Sizes as big numbers: derived trees may be huge. */
    static long size(Tree t) { return nodes(t).size(); }

    // ---- texts

    List<Token> tokens() {
        List<Token> all = new ArrayList<>();
        int i = 0;
        while (i < tape.length()) {
            char c = tape.charAt(i);
            int from = i;
            if (c == 32 || c == 10) { i++; continue; }
            if (c >= 'a' && c <= 'z') {
                while (i < tape.length() && tape.charAt(i) >= 'a' && tape.charAt(i) <= 'z') i++;
                boolean good = i - from == 1 && c <= 'h';
                all.add(new Token(good ? 'N' : 'X', from, c - 'a'));
            } else if (c >= '0' && c <= '9') {
                while (i < tape.length() && tape.charAt(i) >= '0' && tape.charAt(i) <= '9') i++;
                boolean good = i - from <= 4;
                all.add(new Token(good ? '0' : 'X', from, good ? Integer.parseInt(tape.substring(from, i)) : 0));
            } else {
                i++;
                all.add(new Token("()[]+-*^?:".indexOf(c) >= 0 ? c : 'X', from, 0));
            }
        }
        all.add(new Token('E', tape.length(), 0));
        return all;
    }

    List<Token> read;
    int at;
    int open;

    boolean take(char kind) {
        if (read.get(at).kind != kind) return false;
        at++;
        return true;
    }

    void need(char kind) { if (!take(kind)) throw new Fault(read.get(at).place); }

    Tree choice() {
        Tree which = sum();
        if (!take('?')) return which;
        Tree one = sum();
        need(':');
        return new Pick(which, one, sum());
    }

    Tree sum() {
        Tree all = term();
        while (true) {
            if (take('+')) all = new Sum(all, term());
            else if (take('-')) all = new Sum(all, new Neg(term()));
            else return all;
        }
    }

    Tree term() {
        Tree all = pow();
        while (take('*')) all = new Product(all, pow());
        return all;
    }

    Tree pow() {
        Tree all = one();
        while (take('^')) {
            Token t = read.get(at);
            if (t.kind != '0' || t.value > 9) throw new Fault(t.place);
            at++;
            all = new Power(all, t.value);
        }
        return all;
    }

    Tree one() {
        Token t = read.get(at);
        if (take('0')) return new Num(t.value);
        if (take('N')) return new Name(t.value);
        if (t.kind != '-' && t.kind != '(' && t.kind != '[' || open == 5) throw new Fault(t.place);
        at++;
        open++;
        Tree tree = t.kind == '-' ? new Neg(one()) : choice();
        if (t.kind == '(') need(')');
        if (t.kind == '[') { need(']'); tree = new Square(tree); }
        open--;
        return tree;
    }

    // ---- what visitors make

    static Tree folded(Tree t) {
        if (t instanceof Neg n) {
            Tree x = folded(n.tree);
            if (x instanceof Num v) return new Num(0 - v.v);
            if (x instanceof Neg inner) return inner.tree;
            return new Neg(x);
        }
        if (t instanceof Sum s) {
            Tree a = folded(s.a), b = folded(s.b);
            if (a instanceof Num x && b instanceof Num y) return new Num(x.v + y.v);
            if (a.equals(new Num(0))) return b;
            if (b.equals(new Num(0))) return a;
            return new Sum(a, b);
        }
        if (t instanceof Product p) {
            Tree a = folded(p.a), b = folded(p.b);
            if (a instanceof Num x && b instanceof Num y) return new Num(x.v * y.v);
            if (a.equals(new Num(0)) || b.equals(new Num(0))) return new Num(0);
            if (a.equals(new Num(1))) return b;
            if (b.equals(new Num(1))) return a;
            return new Product(a, b);
        }
        if (t instanceof Power p) {
            Tree x = folded(p.tree);
            if (p.digit == 0) return new Num(1);
            if (p.digit == 1) return x;
            if (x instanceof Num v) return new Num(power(v.v, p.digit));
            return new Power(x, p.digit);
        }
        if (t instanceof Pick p) {
            Tree which = folded(p.which);
            if (which instanceof Num v) return v.v != 0 ? folded(p.one) : folded(p.other);
            return new Pick(which, folded(p.one), folded(p.other));
        }
        if (t instanceof Square s) {
            Tree x = folded(s.tree);
            return x instanceof Num v ? new Num(v.v * v.v) : new Square(x);
        }
        return t;
    }

    static long power(long v, int digit) {
        return BigInteger.valueOf(v).pow(digit).longValue();
    }

    static Tree derived(Tree t, int name) {
        if (t instanceof Num) return new Num(0);
        if (t instanceof Name n) return new Num(n.name == name ? 1 : 0);
        if (t instanceof Neg n) return new Neg(derived(n.tree, name));
        if (t instanceof Sum s) return new Sum(derived(s.a, name), derived(s.b, name));
        if (t instanceof Product p) {
            return new Sum(new Product(derived(p.a, name), p.b), new Product(p.a, derived(p.b, name)));
        }
        if (t instanceof Power p) {
            if (p.digit == 0) return new Num(0);
            Tree rest = new Product(new Num(p.digit), new Power(p.tree, p.digit - 1));
            return new Product(rest, derived(p.tree, name));
        }
        if (t instanceof Pick p) return new Pick(p.which, derived(p.one, name), derived(p.other, name));
        Square s = (Square) t;
        return derived(new Product(s.tree, s.tree), name);
    }

    /** How many nodes it would have derived, without making it; -1 where that is far too many. */
    static BigInteger derivedSize(Tree t) {
        BigInteger one = BigInteger.ONE;
        if (t instanceof Neg n) return one.add(derivedSize(n.tree));
        if (t instanceof Sum s) return one.add(derivedSize(s.a)).add(derivedSize(s.b));
        if (t instanceof Product p) {
            return BigInteger.valueOf(3 + size(p.a) + size(p.b)).add(derivedSize(p.a)).add(derivedSize(p.b));
        }
        if (t instanceof Power p) {
            return p.digit == 0 ? one : BigInteger.valueOf(4 + size(p.tree)).add(derivedSize(p.tree));
        }
        if (t instanceof Pick p) {
            return BigInteger.valueOf(1 + size(p.which)).add(derivedSize(p.one)).add(derivedSize(p.other));
        }
        if (t instanceof Square s) {
            return BigInteger.valueOf(3 + 2 * size(s.tree)).add(derivedSize(s.tree).multiply(BigInteger.TWO));
        }
        return one;
    }

    static Tree replaced(Tree t, int name, Tree by) {
        if (t instanceof Name n) return n.name == name ? by : t;
        if (t instanceof Neg n) return new Neg(replaced(n.tree, name, by));
        if (t instanceof Sum s) return new Sum(replaced(s.a, name, by), replaced(s.b, name, by));
        if (t instanceof Product p) return new Product(replaced(p.a, name, by), replaced(p.b, name, by));
        if (t instanceof Power p) return new Power(replaced(p.tree, name, by), p.digit);
        if (t instanceof Pick p) {
            return new Pick(replaced(p.which, name, by), replaced(p.one, name, by), replaced(p.other, name, by));
        }
        if (t instanceof Square s) return new Square(replaced(s.tree, name, by));
        return t;
    }

    // ---- what visitors tell

    static long value(Tree t, int[] values) { return value(t, values, new int[9]); }

    static long value(Tree t, int[] values, int[] met) {
        met[kind(t)]++;
        met[8]++;
        if (t instanceof Num n) return n.v;
        if (t instanceof Name n) return values[n.name];
        if (t instanceof Neg n) return 0 - value(n.tree, values, met);
        if (t instanceof Sum s) return value(s.a, values, met) + value(s.b, values, met);
        if (t instanceof Product p) return value(p.a, values, met) * value(p.b, values, met);
        if (t instanceof Power p) return power(value(p.tree, values, met), p.digit);
        if (t instanceof Pick p) return value(value(p.which, values, met) != 0 ? p.one : p.other, values, met);
        met[4]++;
        met[8]++;
        long v = value(((Square) t).tree, values, met);
        return v * v;
    }

    static int place(Tree t) {
        if (t instanceof Sum) return 3;
        if (t instanceof Product) return 2;
        if (t instanceof Power) return 1;
        return t instanceof Pick ? 4 : 0;
    }

    static String printed(Tree t, int as) {
        if (place(t) > as) return "(" + printed(t, 4) + ")";
        if (t instanceof Num n) return Long.toString(n.v);
        if (t instanceof Name n) return "abcdefgh".substring(n.name, n.name + 1);
        if (t instanceof Neg n) return "-" + printed(n.tree, 0);
        if (t instanceof Sum s) {
            return printed(s.a, 3) + (s.b instanceof Neg n ? "-" + printed(n.tree, 2) : "+" + printed(s.b, 2));
        }
        if (t instanceof Product p) return printed(p.a, 2) + "*" + printed(p.b, 1);
        if (t instanceof Power p) return printed(p.tree, 1) + "^" + p.digit;
        if (t instanceof Pick p) return printed(p.which, 3) + "?" + printed(p.one, 3) + ":" + printed(p.other, 3);
        return "[" + printed(((Square) t).tree, 4) + "]";
    }

    static int measured(Tree t, int m) {
        int all = 0;
        boolean greater = m == 1 || m == 3;
        List<Tree> parts = parts(t);
        if (m == 4 && t instanceof Pick p) {
            all = measured(p.which, m) + Math.max(measured(p.one, m), measured(p.other, m));
        } else if (m == 5 && t instanceof Square s) {
            all = 2 * measured(s.tree, m) + 1;
        } else {
            for (Tree p : parts) all = greater ? Math.max(all, measured(p, m)) : all + measured(p, m);
        }
        int own = 1;
        if (m == 2 || m == 4) own = t instanceof Product || t instanceof Square ? 3 : t instanceof Power p ? p.digit : 1;
        if (m == 3 && t instanceof Neg) own = 0;
        return Math.min(9999, all + own);
    }

    record Line(int number, long pushed) { }

    static List<Line> coded(Tree t, int from) {
        List<Line> all = new ArrayList<>();
        if (t instanceof Pick p) {
            all.addAll(coded(p.which, from));
            List<Line> one = coded(p.one, from + all.size() + 1);
            int otherFrom = from + all.size() + 1 + one.size() + 1;
            List<Line> other = coded(p.other, otherFrom);
            all.add(new Line(60 + 100 * otherFrom, 0));
            all.addAll(one);
            all.add(new Line(70 + 100 * (otherFrom + other.size()), 0));
            all.addAll(other);
            return all;
        }
        for (Tree p : parts(t)) all.addAll(coded(p, from + all.size()));
        if (t instanceof Num n) all.add(new Line(0, n.v));
        if (t instanceof Name n) all.add(new Line(10 + n.name, 0));
        if (t instanceof Neg) all.add(new Line(20, 0));
        if (t instanceof Sum) all.add(new Line(30, 0));
        if (t instanceof Square) all.add(new Line(80, 0));
        if (t instanceof Product || t instanceof Square) all.add(new Line(40, 0));
        if (t instanceof Power p) all.add(new Line(50 + p.digit, 0));
        return all;
    }

    /** What the code leaves, its steps, how high it went. */
    static long[] executed(List<Line> lines, int[] values) {
        ArrayList<Long> stack = new ArrayList<>();
        int at = 0, steps = 0, high = 0;
        while (at < lines.size()) {
            Line line = lines.get(at++);
            steps++;
            int order = line.number / 10 % 10, more = line.number % 10;
            if (order == 0) stack.add(line.pushed);
            else if (order == 1) stack.add((long) values[more]);
            else if (order == 7) at = line.number / 100;
            else {
                long top = stack.remove(stack.size() - 1);
                if (order == 2) stack.add(-top);
                if (order == 3) stack.add(stack.remove(stack.size() - 1) + top);
                if (order == 4) stack.add(stack.remove(stack.size() - 1) * top);
                if (order == 5) stack.add(power(top, more));
                if (order == 6 && top == 0) at = line.number / 100;
                if (order == 8) { stack.add(top); stack.add(top); }
            }
            high = Math.max(high, stack.size());
        }
        return new long[] {stack.get(stack.size() - 1), steps, high};
    }

    static int degreed(Tree t, int name) {
        List<Integer> of = new ArrayList<>();
        for (Tree p : parts(t)) {
            int d = degreed(p, name);
            if (d == -1) return -1;
            of.add(d);
        }
        int d;
        if (t instanceof Num) d = 0;
        else if (t instanceof Name n) d = n.name == name ? 1 : 0;
        else if (t instanceof Neg) d = of.get(0);
        else if (t instanceof Sum) d = Math.max(of.get(0), of.get(1));
        else if (t instanceof Product) d = of.get(0) + of.get(1);
        else if (t instanceof Power p) d = p.digit * of.get(0);
        else if (t instanceof Pick p) {
            if (nodes(p.which).contains(new Name(name))) return -1;
            d = Math.max(of.get(1), of.get(2));
        } else d = 2 * of.get(0);
        return Math.min(9999, d);
    }

    int[] with(int name, int v) {
        int[] all = values.clone();
        all[name] = v;
        return all;
    }

    static int[] drawnValues(int seed) {
        int[] all = new int[8];
        int z = seed;
        for (int i = 0; i < 8; i++) {
            z = z * 1103515245 + 12345;
            all[i] = (z >>> 9) % 21 - 10;
        }
        return all;
    }

    // ---- the face

    boolean noFormula(int f) { return !in(f, 0, 11); }

    int feed(int n, int a, int b, int c, int d, int e) {
        int[] all = {a, b, c, d, e};
        if (!in(n, 1, 5)) return -2;
        for (int v : all) if (!in(v, 0, 255)) return -2;
        if (tape.length() + n > 120) return -4;
        for (int i = 0; i < n; i++) tape.append((char) all[i]);
        return tape.length();
    }

    int text(int f) {
        if (noFormula(f)) return -2;
        try {
            read = tokens();
            at = 0;
            open = 0;
            Tree t = choice();
            need('E');
            formulas[f] = t;
            return (int) size(t);
        } catch (Fault fault) {
            return -100 - fault.place;
        } finally {
            tape.setLength(0);
        }
    }

    int let(int name, int v) {
        if (!in(name, 0, 7)) return -2;
        int was = values[name];
        values[name] = v;
        return was;
    }

    int turn(int f, int what, int by) {
        if (noFormula(f)) return -2;
        if (!(what == 0 || what == 1 || in(what, 10, 17) || in(what, 20, 27) || what == 30)) return -2;
        if (what >= 20 && noFormula(by)) return -2;
        if (what != 0 && what != 30 && formulas[f] == null) return -3;
        if (what >= 20 && formulas[by] == null) return -3;
        if (what == 0) { formulas[f] = null; return 0; }
        Tree t;
        if (what == 30) t = formulas[by];
        else if (what == 1) t = folded(formulas[f]);
        else if (what < 20) {
            if (derivedSize(formulas[f]).compareTo(BigInteger.valueOf(200)) > 0) return -4;
            t = derived(formulas[f], what - 10);
        } else t = replaced(formulas[f], what - 20, formulas[by]);
        if (size(t) > 200) return -4;
        formulas[f] = t;
        return (int) size(t);
    }

    int node(int f, int k, int what) {
        if (noFormula(f) || !in(what, 0, 4)) return -2;
        if (formulas[f] == null) return -3;
        if (!in(k, 0, (int) size(formulas[f]) - 1)) return -12;
        Tree t = nodes(formulas[f]).get(k);
        if (what == 0) return kind(t);
        if (what == 1) return t instanceof Num n ? (int) n.v : -1;
        if (what == 2) return t instanceof Name n ? n.name : -1;
        if (what == 3) return t instanceof Power p ? p.digit : -1;
        return (int) size(t);
    }

    int taken(int f, int k, int kind) {
        if (noFormula(f) || !in(kind, 0, 7)) return -2;
        if (formulas[f] == null) return -3;
        if (!in(k, 0, (int) size(formulas[f]) - 1)) return -12;
        Tree t = nodes(formulas[f]).get(k);
        if (t instanceof Square s && kind == 4) return (int) size(new Product(s.tree, s.tree));
        return kind(t) == kind ? (int) size(t) : -13;
    }

    long worth(int f) {
        if (noFormula(f)) return -1000002;
        if (formulas[f] == null) return -1000003;
        return value(formulas[f], values);
    }

    int met(int f, int kind) {
        if (noFormula(f) || !in(kind, 0, 8)) return -2;
        if (formulas[f] == null) return -3;
        int[] met = new int[9];
        value(formulas[f], values, met);
        return met[kind];
    }

    long purse(int f, int n) {
        if (noFormula(f) || !in(n, 0, 9999)) return -1000002;
        if (formulas[f] == null) return -1000003;
        int[] met = new int[9];
        long v = value(formulas[f], values, met);
        return met[8] > n ? -1000006 : v;
    }

    int print(int f, int k) {
        if (noFormula(f)) return -2;
        if (formulas[f] == null) return -3;
        String s = printed(formulas[f], 4);
        if (!in(k, -1, s.length() - 1)) return -12;
        return k == -1 ? s.length() : s.charAt(k);
    }

    int measure(int f, int kind) {
        if (noFormula(f) || !in(kind, 0, 5)) return -2;
        if (formulas[f] == null) return -3;
        return measured(formulas[f], kind);
    }

    int code(int f, int k) {
        if (noFormula(f) || k < -3) return -2;
        if (formulas[f] == null) return -3;
        List<Line> lines = coded(formulas[f], 0);
        if (k >= lines.size()) return -12;
        if (k >= 0) return lines.get(k).number;
        if (k == -1) return lines.size();
        return (int) executed(lines, values)[k == -2 ? 1 : 2];
    }

    long run(int f) {
        if (noFormula(f)) return -1000002;
        if (formulas[f] == null) return -1000003;
        return executed(coded(formulas[f], 0), values)[0];
    }

    int alike(int f, int other, int what) {
        if (noFormula(f) || noFormula(other) || !in(what, 0, 2)) return -2;
        if (formulas[f] == null || what < 2 && formulas[other] == null) return -3;
        if (what == 0) return formulas[f].equals(formulas[other]) ? 1 : 0;
        Set<Tree> first = new HashSet<>(nodes(formulas[f]));
        if (what == 2) return first.size();
        int most = 0;
        for (Tree t : nodes(formulas[other])) if (first.contains(t)) most = Math.max(most, (int) size(t));
        return most;
    }

    int degree(int f, int name) {
        if (noFormula(f) || !in(name, 0, 7)) return -2;
        if (formulas[f] == null) return -3;
        return degreed(formulas[f], name);
    }

    int sought(int f, int name, int low, int n, int w, int what) {
        if (noFormula(f) || !in(name, 0, 7) || !in(n, 1, 100) || !in(what, 0, 1)) return -2;
        if (formulas[f] == null) return -3;
        List<Integer> found = new ArrayList<>();
        for (int i = 0; i < n; i++) if (value(formulas[f], with(name, low + i)) == w) found.add(low + i);
        if (what == 0) return found.size();
        return found.isEmpty() ? 0 : found.get(0);
    }

    long drawn(int f, int seed) {
        if (noFormula(f)) return -1000002;
        if (formulas[f] == null) return -1000003;
        return value(formulas[f], drawnValues(seed));
    }

    int chance(int f, int seed, int m, int w, int part) {
        if (noFormula(f) || !in(m, 1, 20) || !in(part, 0, 1)) return -2;
        if (formulas[f] == null) return -3;
        int within = 0;
        for (int i = 0; i < m; i++) if (value(formulas[f], drawnValues(seed + i)) <= w) within++;
        int d = BigInteger.valueOf(within).gcd(BigInteger.valueOf(m)).intValue();
        return (part == 0 ? within : m) / d;
    }

    int otherwise(int sheet, Tree t, int name) {
        for (int i = 0; i < sheets[sheet].length; i++) {
            if ((int) value(t, with(name, i)) != sheets[sheet][i]) return i;
        }
        return -1;
    }

    static Tree withNumber(Tree t, int[] ahead, long v) {
        if (t instanceof Num) return ahead[0]-- == 0 ? new Num(v) : t;
        if (t instanceof Neg n) return new Neg(withNumber(n.tree, ahead, v));
        if (t instanceof Sum s) {
            Tree a = withNumber(s.a, ahead, v);
            return new Sum(a, withNumber(s.b, ahead, v));
        }
        if (t instanceof Product p) {
            Tree a = withNumber(p.a, ahead, v);
            return new Product(a, withNumber(p.b, ahead, v));
        }
        if (t instanceof Power p) return new Power(withNumber(p.tree, ahead, v), p.digit);
        if (t instanceof Pick p) {
            Tree which = withNumber(p.which, ahead, v);
            Tree one = withNumber(p.one, ahead, v);
            return new Pick(which, one, withNumber(p.other, ahead, v));
        }
        if (t instanceof Square s) return new Square(withNumber(s.tree, ahead, v));
        return t;
    }

    int tells(int sheet, int f, int name, int what) {
        if (!in(sheet, 0, 3) || noFormula(f) || !in(name, 0, 7)) return -2;
        if (!(in(what, 0, 2) || in(what, 10, 50) || in(what, 100, 140))) return -2;
        int k = what >= 100 ? what - 100 : what - 10;
        int numbers = 0;
        if (formulas[f] != null) for (Tree t : nodes(formulas[f])) if (t instanceof Num) numbers++;
        if (what >= 10 && k >= numbers) return -2;
        if (formulas[f] == null) return -3;
        if (sheets[sheet] == null) return -11;
        if (sheets[sheet].length > 20) return -2;
        if (what == 0) return otherwise(sheet, formulas[f], name);
        int bits = 0;
        if (what == 1) {
            for (int i = 0; i < 12; i++) {
                if (formulas[i] != null && otherwise(sheet, formulas[i], name) == -1) bits += 1 << i;
            }
            return bits;
        }
        if (what == 2) {
            for (int i = 0; i < 8; i++) if (otherwise(sheet, formulas[f], i) == -1) bits += 1 << i;
            return bits;
        }
        List<Integer> fit = new ArrayList<>();
        for (int v = 0; v < 100; v++) {
            if (otherwise(sheet, withNumber(formulas[f], new int[] {k}, v), name) == -1) fit.add(v);
        }
        if (what < 100) return fit.size();
        return fit.isEmpty() ? -1 : fit.get(0);
    }

    int film(int sheet, int f, int name, int n) {
        if (!in(sheet, 0, 3) || noFormula(f) || !in(name, 0, 7) || !in(n, 0, 20)) return -2;
        if (formulas[f] == null) return -3;
        sheets[sheet] = new int[n];
        sorts[sheet] = 1;
        for (int i = 0; i < n; i++) sheets[sheet][i] = (int) value(formulas[f], with(name, i));
        return n;
    }

    int image() {
        keptFormulas = formulas.clone();
        keptValues = values.clone();
        return count(0);
    }

    int back() {
        if (keptFormulas == null) return -3;
        formulas = keptFormulas.clone();
        values = keptValues.clone();
        return count(0);
    }

    int count(int what) {
        int full = 0, all = 0;
        for (Tree t : formulas) if (t != null) { full++; all += size(t); }
        if (what == 0) return full;
        if (what == 1) return tape.length();
        if (what == 2) return all;
        return in(what, 10, 17) ? values[what - 10] : -2;
    }

    int sheet(int sheet, int sort, int n) {
        if (!in(sheet, 0, 3) || !in(sort, -1, 1)) return -2;
        if (sort == -1) { sheets[sheet] = null; return 1; }
        if (n > 40) return -2;
        if (n < 0) return -14;
        sheets[sheet] = new int[n];
        sorts[sheet] = sort;
        return 1;
    }

    int cell(int sheet, int i, int v) {
        if (!in(sheet, 0, 3)) return -2;
        if (sheets[sheet] == null) return -11;
        if (!in(i, 0, sheets[sheet].length - 1)) return -12;
        sheets[sheet][i] = sorts[sheet] == 0 ? (short) v : v;
        return 1;
    }

    int copy(int sheet, int i, int other, int j, int n) {
        if (!in(sheet, 0, 3) || !in(other, 0, 3)) return -2;
        if (sheets[sheet] == null || sheets[other] == null) return -11;
        if (sorts[sheet] != sorts[other]) return -13;
        boolean fits = i >= 0 && j >= 0 && n >= 0 && (long) i + n <= sheets[sheet].length
                && (long) j + n <= sheets[other].length;
        if (!fits) return -12;
        int[] from = sheets[sheet].clone();
        for (int k = 0; k < n; k++) sheets[other][j + k] = from[i + k];
        return n;
    }
}
