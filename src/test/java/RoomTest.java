import java.lang.reflect.Array;
import java.lang.reflect.Field;
import java.lang.reflect.Modifier;
import java.util.ArrayDeque;
import java.util.Collections;
import java.util.Deque;
import java.util.IdentityHashMap;
import java.util.Set;

/**
 * The room of a run, 600,000 objects and arrays of 7.3 million fields and elements: what one object of
 * the class takes of it, and that no call takes more.
 */
public final class RoomTest extends Checks {
    private static final int MOST_OBJECTS = 6000, MOST_ELEMENTS = 73000;

    /** How many objects and arrays hang on one; how many fields and elements these have. */
    private static int[] room(Object root) throws IllegalAccessException {
        Set<Object> seen = Collections.newSetFromMap(new IdentityHashMap<>());
        Deque<Object> rest = new ArrayDeque<>();
        rest.add(root);
        seen.add(root);
        int elements = 0;
        while (!rest.isEmpty()) {
            Object o = rest.remove();
            elements += o.getClass().isArray() ? itemsOf(o, seen, rest) : fieldsOf(o, seen, rest);
        }
        return new int[] {seen.size(), elements};
    }

    private static int itemsOf(Object array, Set<Object> seen, Deque<Object> rest) {
        int n = Array.getLength(array);
        for (int i = 0; i < n && !array.getClass().getComponentType().isPrimitive(); i++) {
            Object item = Array.get(array, i);
            if (item != null && seen.add(item)) rest.add(item);
        }
        return n;
    }

    private static int fieldsOf(Object o, Set<Object> seen, Deque<Object> rest) throws IllegalAccessException {
        int n = 0;
        for (Field f : o.getClass().getDeclaredFields()) {
            if (Modifier.isStatic(f.getModifiers())) continue;
            n++;
            f.setAccessible(true);
            Object v = f.getType().isPrimitive() ? null : f.get(o);
            if (v != null && seen.add(v)) rest.add(v);
        }
        return n;
    }

    static void room_oneObjectTakesAHundredthOfTheRoomAtMost() throws IllegalAccessException {
        int[] takes = room(new FormulaVisitors());
        due("few objects", takes[0] <= MOST_OBJECTS ? 0 : takes[0], 0);
        due("few fields and elements", takes[1] <= MOST_ELEMENTS ? 0 : takes[1], 0);
    }

    /** All calls that answer by looking, and some that change. */
    private static void allCalls(FormulaVisitors x, int f, int round) {
        x.node(f, 0, 4);
        x.taken(f, 0, 3);
        x.worth(f);
        x.met(f, 8);
        x.purse(f, 9999);
        x.print(f, -1);
        x.measure(f, round % 6);
        x.code(f, -2);
        x.run(f);
        x.alike(f, (f + 1) % 12, round % 3);
        x.degree(f, 0);
        x.sought(f, 0, -50, 100, 7, 0);
        x.drawn(f, round);
        x.chance(f, round, 20, 9, 0);
        x.film(round % 4, f, 0, 20);
        for (int what : new int[] {0, 1, 2, 10, 100}) x.tells(round % 4, f, 0, what);
        x.image();
        x.turn(f, 10 + round % 8, 0);
        x.turn(f, 1, 0);
        x.turn((f + 1) % 12, 30, f);
        x.back();
        x.turn(f, 20, (f + 1) % 12);
        x.count(2);
        x.let(0, round);
        x.sheet(round % 4, round % 2, 40);
        x.cell(round % 4, 39, round);
        x.copy(round % 4, 0, round % 4, 1, 39);
    }

    static void room_callsKeepNothingMore() throws IllegalAccessException {
        FormulaVisitors x = new FormulaVisitors();
        int[] before = room(x);
        for (int f = 0; f < 12; f++) write(x, f, "a*" + f + "-[a+b]^2+(c?a:d)");
        for (int round = 0; round < 12; round++) allCalls(x, round, round);
        int[] after = room(x);
        due("objects", after[0], before[0]);
        due("fields and elements", after[1], before[1]);
    }

    public static void main(String[] args) {
        runAll(RoomTest.class);
    }
}
