import java.lang.reflect.Method;
import java.lang.reflect.Modifier;
import java.nio.file.Files;
import java.nio.file.Path;
import java.util.regex.Matcher;
import java.util.regex.Pattern;

/** What README.md says of the use of the class; run in the project's directory. */
public final class ReadmeTest extends Checks {
    private static String page() throws Exception {
        return Files.readString(Path.of("README.md"));
    }

    static void readme_whatItShowsIsSo() {
        FormulaVisitors x = new FormulaVisitors();
        due("feed", x.feed(5, 'a', '*', '3', '+', '2'), 5);
        due("text", x.text(0), 5);
        due("let", x.let(0, 4), 0);
        due("worth", x.worth(0), 14);
        due("film", x.film(0, 0, 0, 6), 6);
        due("tells", x.tells(0, 0, 0, 100), 3);
        due("derived", x.turn(0, 10, 0), 9);
        due("folded", x.turn(0, 1, 0), 1);
        due("worth", x.worth(0), 3);
        due("worth of an EMPTY one", x.worth(1), LONG_STATE);
    }

    /** The calls of the page stand above with the answers that it shows. */
    static void readme_itsAnswersAreThose() throws Exception {
        long[] shown = {5, 5, 0, 14, 6, 3, 9, 1, 3, LONG_STATE};
        Matcher line = Pattern.compile("(?m)^x\\.\\w+\\(.*\\); +// (-?\\d+)").matcher(page());
        int k = 0;
        for (; line.find() && k < shown.length; k++) due("answer " + k, Long.parseLong(line.group(1)), shown[k]);
        due("answers", k, shown.length);
    }

    static void readme_itsTableHasEachCall() throws Exception {
        String page = page();
        for (Method m : FormulaVisitors.class.getDeclaredMethods()) {
            if (Modifier.isPrivate(m.getModifiers())) continue;
            Matcher row = Pattern.compile("(?m)^\\| `" + m.getName() + "\\(([^)]*)\\)` \\|").matcher(page);
            due("a row of " + m.getName(), row.find() ? 1 : 0, 1);
            int commas = (int) row.group(1).chars().filter(c -> c == ',').count();
            due("arguments of " + m.getName(), row.group(1).isEmpty() ? 0 : commas + 1, m.getParameterCount());
        }
        for (int promise = 1; promise <= 27; promise++) {
            due("a row of promise " + promise, page.contains("| " + promise + " |") ? 1 : 0, 1);
        }
    }

    public static void main(String[] args) {
        runAll(ReadmeTest.class);
    }
}
