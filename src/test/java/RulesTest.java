import java.nio.file.Files;
import java.nio.file.Path;
import java.util.HashSet;
import java.util.Set;
import java.util.regex.Matcher;
import java.util.regex.Pattern;

/** What can be seen of ../shared/LANGUAGE.md in the lines of the class; run in the project's directory. */
public final class RulesTest {
    private static int wrong = 0;

    private static void rule(boolean kept, String rule) {
        if (!kept) {
            wrong++;
            System.out.println("not kept: " + rule);
        }
    }

    private static int found(String source, String pattern) {
        Matcher m = Pattern.compile(pattern).matcher(source);
        int n = 0;
        while (m.find()) n++;
        return n;
    }

    public static void main(String[] args) throws Exception {
        String file = Files.readString(Path.of("src/main/java/FormulaVisitors.java"));
        String source = file.replaceAll("(?s)/\\*.*?\\*/", "").replaceAll("//[^\n]*", "");
        rule(file.chars().allMatch(c -> c >= 1 && c <= 127), "4: signs are 1 to 127");
        for (String word : new String[] {"import", "package", "try", "catch", "throw", "finally", "synchronized",
                "assert", "lambda", "protected", "double", "float", "instanceof", "hashCode", "Object", "Thread"}) {
            rule(found(source, "\\b" + word + "\\b") == 0, "a word that isn't needed: " + word);
        }
        rule(found(source, "->|::|@") == 0, "2: no lambda, no method reference");
        rule(found(source, "\"") == 0, "no texts are needed");
        rule(found(source, "\\bclass\\b") <= 12, "11: some twelve classes");
        rule(found(source, "(?m)^    private static final class ") + 1 == found(source, "\\bclass\\b"), "2: static classes inside");
        privateNames(source);
        methods(source);
        edges();
        System.out.println(wrong == 0 ? "all rules are kept" : wrong + " rules are not kept");
        if (wrong != 0) System.exit(1);
    }

    private static void privateNames(String source) {
        Set<String> face = new HashSet<>();
        Matcher m = Pattern.compile("(?m)^    public (?:int|long) (\\w+)\\(").matcher(source);
        while (m.find()) face.add(m.group(1));
        rule(face.size() == 26, "1: the face has 26 calls");
        rule(found(source, "(?m)^    public ") == 26 + 2, "1: the face has no more than the document's");
        rule(found(source, "(?m)^    (?!public|private|\\}| |$)") == 0, "1: all else is private");
        Matcher own = Pattern.compile("(?m)^ +(?:private )?(?:static )?[\\w\\[\\]]+ (\\w+)\\([^;{]*\\) \\{").matcher(source);
        while (own.find()) {
            boolean isOfFace = own.group().startsWith("    public");
            rule(isOfFace || !face.contains(own.group(1)), "1: no private " + own.group(1));
        }
    }

    /** Lengths, parameters, and that nothing is made but in fields and constructors. */
    private static void methods(String source) {
        String[] lines = source.split("\n");
        int from = -1;
        String head = "";
        for (int i = 0; i < lines.length; i++) {
            boolean opens = lines[i].matches(" {4,8}(public |private |static )*[\\w\\[\\]]+( \\w+)?\\(.*\\) \\{");
            if (opens && from < 0) {
                from = i;
                head = lines[i];
                rule(head.chars().filter(c -> c == ',').count() < 7, "11: seven parameters: " + head);
            }
            String end = head.replaceAll("\\S.*", "") + "}";
            if (from >= 0 && lines[i].equals(end)) {
                rule(i - from <= 60, "11: some sixty lines: " + head);
                from = -1;
            }
            boolean inConstructor = head.matches(" +(public )?[A-Z].*") && from >= 0;
            rule(!(lines[i].contains("new ") && from >= 0 && !inConstructor), "12: nothing is made in " + head);
        }
        rule(from < 0, "all methods end");
    }

    /** Each promise has edges that are tested. */
    private static void edges() throws Exception {
        StringBuilder tests = new StringBuilder();
        for (String of : new String[] {"Formulas", "Visitors", "Sheets"}) {
            tests.append(Files.readString(Path.of("src/test/java/EdgesOf" + of + "Test.java")));
        }
        for (int promise = 1; promise <= 27; promise++) {
            rule(found(tests.toString(), String.format("void promise%02d_", promise)) > 0, "edges of promise " + promise);
        }
    }
}
