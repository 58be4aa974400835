import java.lang.reflect.Constructor;
import java.lang.reflect.Field;
import java.lang.reflect.Method;
import java.lang.reflect.Modifier;
import java.util.Map;
import java.util.TreeMap;

/** The public face, as the document writes it: constants, the constructor, each call, and nothing else. */
public final class FaceTest extends Checks {
    private static final String[] CALLS = {
        "int feed 6", "int text 1", "int let 2", "int turn 3", "int node 3", "int taken 3",
        "long worth 1", "int met 2", "long purse 2", "int print 2", "int measure 2", "int code 2", "long run 1",
        "int alike 3", "int degree 2", "int sought 6", "long drawn 2", "int chance 5",
        "int tells 4", "int film 4", "int image 0", "int back 0", "int count 1",
        "int sheet 3", "int cell 3", "int copy 5"};

    static void face_constantsAreAsTold() throws IllegalAccessException {
        Map<String, Integer> want = new TreeMap<>(Map.of("NONE", -1, "BAD", -2, "STATE", -3, "FULL", -4, "DEAR", -6));
        Map<String, Integer> found = new TreeMap<>();
        for (Field f : FormulaVisitors.class.getDeclaredFields()) {
            if (Modifier.isPrivate(f.getModifiers())) continue;
            due("modifiers of " + f.getName(), f.getModifiers(), Modifier.PUBLIC | Modifier.STATIC | Modifier.FINAL);
            dueText("type of " + f.getName(), f.getType().getName(), "int");
            found.put(f.getName(), f.getInt(null));
        }
        dueText("constants", found.toString(), want.toString());
    }

    static void face_theClassIsPublicAndFinalAndOfNoPackage() {
        due("modifiers", FormulaVisitors.class.getModifiers(), Modifier.PUBLIC | Modifier.FINAL);
        dueText("package", FormulaVisitors.class.getPackageName(), "");
        dueText("it extends", FormulaVisitors.class.getSuperclass().getName(), "java.lang.Object");
        due("interfaces", FormulaVisitors.class.getInterfaces().length, 0);
    }

    static void face_thereIsOneConstructor() {
        Constructor<?>[] all = FormulaVisitors.class.getDeclaredConstructors();
        due("constructors", all.length, 1);
        due("its parameters", all[0].getParameterCount(), 0);
        due("its modifiers", all[0].getModifiers(), Modifier.PUBLIC);
    }

    private static String signature(Method m) {
        for (Class<?> p : m.getParameterTypes()) dueText("a parameter of " + m.getName(), p.getName(), "int");
        return m.getReturnType().getName() + " " + m.getName() + " " + m.getParameterCount();
    }

    static void face_theCallsAreThoseOfTheDocument() {
        Map<String, Integer> found = new TreeMap<>();
        Map<String, Integer> want = new TreeMap<>();
        for (String s : CALLS) want.put(s, Modifier.PUBLIC);
        for (Method m : FormulaVisitors.class.getDeclaredMethods()) {
            if (!Modifier.isPrivate(m.getModifiers())) found.put(signature(m), m.getModifiers());
        }
        dueText("calls", found.toString(), want.toString());
    }

    static void face_noCallDeclaresAnException() {
        for (Method m : FormulaVisitors.class.getDeclaredMethods()) {
            due("exceptions of " + m.getName(), m.getExceptionTypes().length, 0);
        }
    }

    public static void main(String[] args) {
        runAll(FaceTest.class);
    }
}
