import java.lang.reflect.InvocationTargetException;
import java.lang.reflect.Method;
import java.util.ArrayList;
import java.util.Comparator;
import java.util.List;

/** What the tests share: answers that are due, texts that are written, objects in a told state. */
abstract class Checks {
    static final int MAX = Integer.MAX_VALUE, MIN = Integer.MIN_VALUE;
    static final int NONE = -1, BAD = -2, STATE = -3, FULL = -4;
    static final int MISSING = -11, OUTSIDE = -12, OTHER_SORT = -13, BELOW_ZERO = -14;
    static final long LONG_BAD = -1000002, LONG_STATE = -1000003, LONG_DEAR = -1000006;
    /** 2 to the 63rd, as a text: the least long, as longs wrap. */
    static final String LEAST = "8*4096^5", GREATEST = "(8*4096^5-1)";

    static final int[] NO_FORMULA = {-1, 12, MAX, MIN}, NO_NAME = {-1, 8, MAX, MIN}, NO_SHEET = {-1, 4, MAX, MIN};

    private static int wrong;

    interface Call {
        long on(FormulaVisitors x);
    }

    static void due(String what, long got, long want) {
        if (got != want) {
            wrong++;
            System.out.println(what + ": answered " + got + ", due is " + want);
        }
    }

    static void dueText(String what, String got, String want) {
        if (!got.equals(want)) {
            wrong++;
            System.out.println(what + ": answered " + got + ", due is " + want);
        }
    }

    // ---- texts and formulas

    /** The text comes to THE TAPE, which is empty. */
    static void feedAll(FormulaVisitors x, String text) {
        for (int i = 0; i < text.length(); i += 5) {
            int[] v = new int[5];
            int n = Math.min(5, text.length() - i);
            for (int j = 0; j < n; j++) v[j] = text.charAt(i + j);
            due("feed of " + text, x.feed(n, v[0], v[1], v[2], v[3], v[4]), i + n);
        }
    }

    static int write(FormulaVisitors x, int formula, String text) {
        feedAll(x, text);
        return x.text(formula);
    }

    /** Formulas 0, 1, .. are those of the texts. */
    static FormulaVisitors of(String... texts) {
        FormulaVisitors x = new FormulaVisitors();
        for (int i = 0; i < texts.length; i++) {
            if (write(x, i, texts[i]) < 0) due("text " + texts[i], -1, 0);
        }
        return x;
    }

    /** As of, and all are folded: so numbers come that no text can tell. */
    static FormulaVisitors foldedOf(String... texts) {
        FormulaVisitors x = of(texts);
        for (int i = 0; i < texts.length; i++) x.turn(i, 1, 0);
        return x;
    }

    static String printed(FormulaVisitors x, int formula) {
        StringBuilder s = new StringBuilder();
        int size = x.print(formula, -1);
        for (int i = 0; i < size; i++) s.append((char) x.print(formula, i));
        return s.toString();
    }

    static void dueFault(String text, int place) {
        FormulaVisitors x = of("a+7");
        due("text " + text, write(x, 0, text), -100 - place);
        due("tape after " + text, x.count(1), 0);
        dueText("formula after the fault of " + text, printed(x, 0), "a+7");
    }

    static void dueNodes(String text, int nodes) {
        due("nodes of " + text, write(new FormulaVisitors(), 0, text), nodes);
    }

    static void duePrinted(String text, String want) {
        dueText("print of " + text, printed(of(text), 0), want);
    }

    static void dueTurned(String text, int what, String want) {
        FormulaVisitors x = of(text);
        int nodes = x.turn(0, what, -5);
        dueText("turn " + what + " of " + text, printed(x, 0), want);
        due("nodes of turn " + what + " of " + text, nodes, x.measure(0, 0));
    }

    /** What the text is worth, by all the ways that tell it. */
    static void dueWorth(String text, long want) {
        FormulaVisitors x = of(text);
        due("worth of " + text, x.worth(0), want);
        due("run of " + text, x.run(0), want);
        due("purse of " + text, x.purse(0, 9999), want);
    }

    /** Formula 0 is of so many nodes: a name behind signs. */
    static FormulaVisitors withNodes(int nodes) {
        FormulaVisitors x = of("a", "-----a", "-a");
        for (int i = 5; i < nodes; i += 5) x.turn(0, 20, 1);
        while (x.measure(0, 0) < nodes) x.turn(0, 20, 2);
        due("nodes made", x.measure(0, 0), nodes);
        return x;
    }

    // ---- refused calls

    /**
     * An object in which a change of anything shows: formulas 0, 1, 3 (2 and 4 .. 11 are EMPTY), names,
     * sheet 0 of 6 ints, 1 of 3 shorts, 2 of 21 ints (3 is missing), a tape, an image.
     */
    static FormulaVisitors house() {
        FormulaVisitors x = of("a+7");
        write(x, 5, "c");
        x.let(2, 4);
        due("image of the house", x.image(), 2);
        x.turn(5, 0, 0);
        x.let(2, 0);
        x.let(0, 5);
        x.let(1, -7);
        x.let(7, 9);
        write(x, 0, "a*3+2");
        write(x, 1, "[b]-c^2");
        write(x, 3, "a?1:h");
        x.film(0, 0, 0, 6);
        x.sheet(1, 0, 3);
        x.cell(1, 1, 90);
        x.sheet(2, 1, 21);
        x.cell(2, 20, 77);
        feedAll(x, "b*2");
        return x;
    }

    private static void countsAndFormulas(FormulaVisitors x, StringBuilder s) {
        for (int what = 0; what < 18; what++) s.append(x.count(what)).append(' ');
        for (int f = 0; f < 12; f++) {
            int nodes = x.node(f, 0, 4);
            s.append("\nformula ").append(f).append(" of ").append(nodes).append(':');
            for (int k = 0; k < nodes; k++) {
                int kind = x.node(f, k, 0);
                s.append(' ').append(kind).append('/').append(x.node(f, k, kind == 0 ? 1 : kind == 1 ? 2 : 3));
            }
        }
    }

    /** How many items a sheet has; -1, if it is missing. */
    static int sizeOf(FormulaVisitors x, int sheet) {
        int size = -1;
        while (size < 40 && x.copy(sheet, 0, sheet, 0, size + 1) == size + 1) size++;
        return size;
    }

    /** Sort and items (0 .. 99; -1 for all others); sheet 3 and formula 11 are lost by it. */
    private static void items(FormulaVisitors x, int sheet, int size, StringBuilder s) {
        for (int i = 0; i < size; i++) {
            for (int sort = 0; sort < 2; sort++) {
                x.sheet(3, sort, 1);
                if (x.copy(sheet, i, 3, 0, 1) == 1) s.append(' ').append(sort).append('/').append(x.tells(3, 11, 0, 100));
            }
        }
    }

    /** All that can be seen of the house. */
    static String state(FormulaVisitors x) {
        StringBuilder s = new StringBuilder();
        countsAndFormulas(x, s);
        s.append("\ntape: ").append(x.text(11)).append(' ').append(printed(x, 11));
        write(x, 11, "7");
        int hidden = sizeOf(x, 3);
        for (int sheet = 0; sheet < 3; sheet++) {
            s.append("\nsheet ").append(sheet).append(':');
            items(x, sheet, sizeOf(x, sheet), s);
        }
        s.append("\nsheet 3: ").append(hidden).append("\nimage: ").append(x.back()).append('\n');
        countsAndFormulas(x, s);
        return s.toString();
    }

    /** The call is refused so, and nothing is changed by it. */
    static void dueRefused(String call, long want, Call made) {
        FormulaVisitors x = house();
        due(call, made.on(x), want);
        dueText("state after " + call, state(x), state(house()));
    }

    // ---- the tests of a class

    /** Runs each method of a class that is named after a promise, the face, the room or the readme. */
    static void runAll(Class<?> tests) {
        List<Method> all = new ArrayList<>();
        for (Method m : tests.getDeclaredMethods()) if (m.getName().matches("(promise|face|room|readme).*_.*")) all.add(m);
        all.sort(Comparator.comparing(Method::getName));
        int failed = 0;
        for (Method m : all) if (!holds(m)) failed++;
        System.out.println((all.size() - failed) + " passed, " + failed + " failed");
        if (failed > 0 || all.isEmpty()) System.exit(1);
    }

    private static boolean holds(Method test) {
        int before = wrong;
        try {
            test.setAccessible(true);
            test.invoke(null);
        } catch (InvocationTargetException e) {
            wrong++;
            System.out.println("thrown: " + e.getCause());
        } catch (IllegalAccessException e) {
            throw new IllegalStateException(e);
        }
        if (wrong > before) System.out.println("does not hold: " + test.getName());
        return wrong == before;
    }
}
