/** What each promise says, by hand: ordinary inputs, some edges and wrong inputs; all edges are in Edges..Test. */
public final class PromisesTest extends Checks {
    static void promise01_newObject() {
        FormulaVisitors x = new FormulaVisitors();
        for (int i = 0; i < 12; i++) due("worth of a new formula", x.worth(i), LONG_STATE);
        for (int i = 0; i < 4; i++) due("cell of a new sheet", x.cell(i, 0, 1), -11);
        for (int i = 10; i < 18; i++) due("value of a new name", x.count(i), 0);
        due("tape of a new object", x.count(1), 0);
        due("image of a new object", x.back(), -3);
    }

    static void promise02_feed() {
        FormulaVisitors x = new FormulaVisitors();
        due("feed 0", x.feed(0, 1, 1, 1, 1, 1), -2);
        due("feed 6", x.feed(6, 1, 1, 1, 1, 1), -2);
        due("feed -1", x.feed(MIN, 1, 1, 1, 1, 1), -2);
        for (int i = 0; i < 5; i++) {
            for (int v : new int[] {-1, 256, MAX, MIN}) {
                int[] b = new int[5];
                b[i] = v;
                due("feed 1 with a wrong byte", x.feed(1, b[0], b[1], b[2], b[3], b[4]), -2);
            }
        }
        due("nothing came", x.count(1), 0);
        due("feed 1", x.feed(1, 97, 255, 0, 0, 0), 1);
        for (int i = 0; i < 23; i++) x.feed(5, 43, 97, 43, 97, 32);
        due("tape", x.count(1), 116);
        due("feed 5 at 116", x.feed(5, 32, 32, 32, 32, 32), -4);
        due("BAD ahead of FULL", x.feed(5, 32, 32, 32, 32, 256), -2);
        due("feed 4 at 116", x.feed(4, 32, 32, 32, 32, 32), 120);
        due("feed 1 at 120", x.feed(1, 32, 0, 0, 0, 0), -4);
        due("text of 120 bytes", x.text(3), 47 + 46);
    }

    static void promise03_text() {
        FormulaVisitors x = new FormulaVisitors();
        feedAll(x, "a+b");
        due("text 12", x.text(12), -2);
        due("text -1", x.text(-1), -2);
        due("tape stays", x.count(1), 3);
        due("text 11", x.text(11), 3);
        due("tape is empty", x.count(1), 0);
        due("text of blanks between", write(x, 0, " a\n+ 0012 * ( b )"), 5);
        dueText("blanks", printed(x, 0), "a+12*b");
        due("nested picks in brackets", write(x, 0, "(a?b:c)?(d?e:f):[g?h:9999]"), 14);
        dueFault("", 0);
        dueFault("  \n", 3);
        dueFault("a+", 2);
        dueFault("a+ ", 3);
        dueFault("+a", 0);
        dueFault("a b", 2);
        dueFault("a 2", 2);
        dueFault("2a", 1);
        dueFault("ab", 0);
        dueFault("az", 0);
        dueFault("`", 0);
        dueFault("{", 0);
        dueFault("/", 0);
        dueFault("a+ab", 2);
        dueFault("a+i", 2);
        dueFault("A", 0);
        dueFault("a\t", 1);
        dueFault("a\u0000", 1);
        dueFault("a\u0001", 1);
        dueFault("\u0002", 0);
        dueFault("\u0003", 0);
        dueFault("a\u00ff", 1);
        dueFault("12345", 0);
        dueFault("00001", 0);
        dueFault("a^00001", 2);
        dueFault("a^10", 2);
        dueFault("a^0010", 2);
        dueFault("a^b", 2);
        dueFault("a^-1", 2);
        dueFault("a^(1)", 2);
        dueFault("a^", 2);
        dueFault("a*", 2);
        dueFault("a*+b", 2);
        dueFault("a?b", 3);
        dueFault("a?b c:d", 4);
        dueFault("a?:b", 2);
        dueFault("a:b", 1);
        dueFault("a?b:c?d:e", 5);
        dueFault("a?b?c:d:e", 3);
        dueFault("(a", 2);
        dueFault("(a]", 2);
        dueFault("[a)", 2);
        dueFault("a)", 1);
        dueFault("()", 1);
        dueFault("[]", 1);
        dueFault("-", 1);
        dueFault("((((((a))))))", 5);
        dueFault("[[[[[[a]]]]]]", 5);
        dueFault("------a", 5);
        dueFault("-(-[-(a", 5);
        dueFault("((((( -a)))))", 6);
        dueFault("-----(a)", 5);
        dueFault("a b 12345", 2);
        due("0009 behind ^", write(x, 0, "a^0009"), 2);
        due("9 behind ^ again", write(x, 0, "a^9^0"), 3);
        due("five of each kind", write(x, 0, "-(-[(a)])+-(-[(a)])"), 1 + 2 * 4);
        due("a - between isn't open", write(x, 0, "(((((a-b-c)))))"), 7);
        due("a - ends with its ONE", write(x, 0, "-a*-a*-a*-a*-a*-a"), 17);
        due("most nodes of a text", write(x, 0, "a" + "-a".repeat(59)), 60 + 118);
        due("- binds ahead of ^", write(x, 0, "-a^2"), 3);
        due("kind", x.node(0, 0, 0), 5);
        due("kind", x.node(0, 1, 0), 2);
        write(x, 0, "a-b-c");
        dueText("from the left", printed(x, 0), "a-b-c");
        due("second of the sum", x.node(0, 5, 0), 2);
        write(x, 0, "a*b*c");
        due("from the left", x.node(0, 1, 0), 4);
    }

    static void promise04_let() {
        FormulaVisitors x = new FormulaVisitors();
        due("let 8", x.let(8, 5), -2);
        due("let -1", x.let(-1, 5), -2);
        for (int i = 0; i < 8; i++) due("let", x.let(i, 10 + i), 0);
        for (int i = 0; i < 8; i++) due("let again", x.let(i, i % 2 == 0 ? MIN : MAX), 10 + i);
        due("value", x.count(10), MIN);
        due("value", x.count(17), MAX);
    }

    static void promise05_turn() {
        FormulaVisitors x = of("a*b");
        for (int what : new int[] {-1, 2, 9, 18, 19, 28, 29, 31, MAX, MIN}) due("turn", x.turn(0, what, 0), -2);
        due("turn 12", x.turn(12, 0, 0), -2);
        due("turn -1", x.turn(-1, 30, 0), -2);
        due("by 12", x.turn(0, 20, 12), -2);
        due("by -1", x.turn(0, 30, -1), -2);
        due("BAD by ahead of STATE", x.turn(5, 20, 12), -2);
        due("empty folded", x.turn(5, 1, 0), -3);
        due("empty derived", x.turn(5, 17, 0), -3);
        due("empty replaced", x.turn(5, 20, 0), -3);
        due("replaced by empty", x.turn(0, 27, 5), -3);
        due("from empty", x.turn(0, 30, 5), -3);
        due("empty from itself", x.turn(5, 30, 5), -3);
        due("to empty", x.turn(5, 30, 0), 3);
        due("emptied", x.turn(5, 0, -7), 0);
        due("emptied again", x.turn(5, 0, 77), 0);
        due("empty", x.worth(5), LONG_STATE);
    }

    static void promise05_folded() {
        dueTurned("--a", 1, "a");
        dueTurned("---a", 1, "-a");
        dueTurned("-5", 1, "-5");
        dueTurned("--5", 1, "5");
        dueTurned("2+3", 1, "5");
        dueTurned("2-3", 1, "-1");
        dueTurned("0+a", 1, "a");
        dueTurned("a+0", 1, "a");
        dueTurned("a-0", 1, "a");
        dueTurned("0-a", 1, "-a");
        dueTurned("a-3", 1, "a+-3");
        dueTurned("a*(1-4)", 1, "a*-3");
        dueTurned("(0-2)^3", 1, "-8");
        dueTurned("(a+1)^1", 1, "a+1");
        dueTurned("(a+1)^0", 1, "1");
        dueTurned("0^0", 1, "1");
        dueTurned("2^9", 1, "512");
        dueTurned("a^2", 1, "a^2");
        dueTurned("a*0", 1, "0");
        dueTurned("0*a", 1, "0");
        dueTurned("1*a", 1, "a");
        dueTurned("a*1", 1, "a");
        dueTurned("6*7", 1, "42");
        dueTurned("1+a", 1, "1+a");
        dueTurned("2?a:b", 1, "a");
        dueTurned("1-1?a:b+0", 1, "b");
        dueTurned("c?a:a", 1, "c?a:a");
        dueTurned("c?1+1:0*a", 1, "c?2:0");
        dueTurned("[3]", 1, "9");
        dueTurned("[1*a]", 1, "[a]");
        dueTurned("(9999*9999)^9", 1, Long.toString(Oracle.power(9999L * 9999L, 9)));
        dueTurned("-(b+0)*(c*1)", 1, "-b*c");
    }

    static void promise05_derived() {
        dueTurned("7", 10, "0");
        dueTurned("a", 10, "1");
        dueTurned("b", 10, "0");
        dueTurned("h", 17, "1");
        dueTurned("-a", 10, "-1");
        dueTurned("a+b", 10, "1+0");
        dueTurned("a*b", 11, "0*b+a*1");
        dueTurned("a^3", 10, "3*a^2*1");
        dueTurned("a^1", 10, "1*a^0*1");
        dueTurned("(a+b)^0", 10, "0");
        dueTurned("a?a:b", 10, "a?1:0");
        dueTurned("a?a:b*b", 11, "a?0:1*b+b*1");
        dueTurned("[a]", 10, "1*a+a*1");
        FormulaVisitors x = of("[[[[a]]]]+[[[[a]]]]+1");
        due("derived too big", x.turn(0, 10, 0), -4);
        due("as it was", x.measure(0, 0), 13);
    }

    static void promise05_replaced() {
        FormulaVisitors x = of("a*a+b", "a+c");
        due("replaced", x.turn(0, 20, 1), 9);
        dueText("replaced", printed(x, 0), "(a+c)*(a+c)+b");
        due("not there", x.turn(0, 27, 1), 9);
        due("by itself", x.turn(1, 22, 1), 5);
        dueText("by itself", printed(x, 1), "a+(a+c)");
        x = of("-a", "a" + "+a".repeat(59), "a+a", "----a");
        for (int i = 0; i < 6; i++) x.turn(0, 20, 0);
        due("64 signs", x.measure(0, 0), 65);
        x.turn(0, 20, 0);
        due("128 signs", x.measure(0, 0), 129);
        due("above 200", x.turn(0, 20, 0), -4);
        due("above 200, many", x.turn(1, 20, 1), -4);
        due("as it was", x.measure(1, 0), 119);
        for (int i = 0; i < 17; i++) x.turn(0, 20, 3);
        due("197 nodes", x.measure(0, 0), 197);
        due("no room for 4 more", x.turn(0, 20, 3), -4);
        write(x, 4, "---a");
        due("200 nodes", x.turn(0, 20, 4), 200);
        due("depth of 200", x.measure(0, 1), 200);
        x.let(0, 5);
        due("worth of 200", x.worth(0), -5);
        due("run of 200", x.run(0), -5);
        due("print of 200", x.print(0, -1), 200);
        write(x, 4, "-a");
        due("above by one", x.turn(0, 20, 4), -4);
        due("folded from there", x.turn(0, 1, 0), 2);
    }

    static void promise06_node() {
        FormulaVisitors x = of("7-b^3*[c]?1:h", "9999^9*9999");
        int[] kinds = {6, 3, 0, 2, 4, 5, 1, 7, 1, 0, 1};
        int[] sizes = {11, 8, 1, 6, 5, 2, 1, 2, 1, 1, 1};
        for (int k = 0; k < kinds.length; k++) {
            due("kind " + k, x.node(0, k, 0), kinds[k]);
            due("nodes " + k, x.node(0, k, 4), sizes[k]);
        }
        due("number", x.node(0, 2, 1), 7);
        due("name", x.node(0, 6, 2), 1);
        due("digit", x.node(0, 5, 3), 3);
        due("name h", x.node(0, 10, 2), 7);
        for (int what = 1; what <= 3; what++) due("another kind", x.node(0, 0, what), -1);
        due("number of a name", x.node(0, 6, 1), -1);
        due("digit of a number", x.node(0, 2, 3), -1);
        x.turn(1, 1, 0);
        due("lowest 32 bits", x.node(1, 0, 1), (int) (Oracle.power(9999, 9) * 9999));
        due("node 11", x.node(0, 11, 0), -12);
        due("node -1", x.node(0, -1, 0), -12);
        due("node MAX", x.node(0, MAX, 4), -12);
        due("what 5", x.node(0, 0, 5), -2);
        due("what -1", x.node(0, 0, -1), -2);
        due("formula 12", x.node(12, 0, 0), -2);
        due("BAD ahead of STATE", x.node(3, 0, 5), -2);
        due("STATE ahead of -12", x.node(3, -1, 0), -3);
    }

    static void promise07_taken() {
        FormulaVisitors x = of("[a+1]*-b^2?3:c");
        int[] kinds = {6, 4, 7, 3, 1, 0, 5, 2, 1, 0, 1};
        int[] sizes = {11, 8, 4, 3, 1, 1, 3, 2, 1, 1, 1};
        for (int k = 0; k < kinds.length; k++) {
            for (int kind = 0; kind < 8; kind++) {
                int want = kind == kinds[k] ? sizes[k] : kinds[k] == 7 && kind == 4 ? 7 : -13;
                due("taken " + k + " for " + kind, x.taken(0, k, kind), want);
            }
        }
        due("kind 8", x.taken(0, 0, 8), -2);
        due("kind -1", x.taken(0, 0, -1), -2);
        due("formula -1", x.taken(-1, 0, 0), -2);
        due("BAD ahead of STATE", x.taken(1, 0, 8), -2);
        due("STATE ahead of -12", x.taken(1, 99, 0), -3);
        due("-12 ahead of -13", x.taken(0, 11, 0), -12);
        due("-12", x.taken(0, -1, 6), -12);
    }

    static void promise08_worth() {
        FormulaVisitors x = of("9999^9*9999^9", "a^0+b^1", "a?b:c", "-a*[b-c]", "(a-a)^0");
        due("wraps", x.worth(0), Oracle.power(9999, 18));
        x.let(0, MIN);
        x.let(1, MAX);
        x.let(2, -3);
        due("power", x.worth(1), 1L + MAX);
        due("one", x.worth(2), MAX);
        due("square", x.worth(3), (-(long) MIN) * ((MAX + 3L) * (MAX + 3L)));
        due("0 to 0", x.worth(4), 1);
        x.let(0, 0);
        due("other", x.worth(2), -3);
        due("BAD", x.worth(12), LONG_BAD);
        due("BAD", x.worth(MIN), LONG_BAD);
        due("STATE", x.worth(11), LONG_STATE);
    }

    static void promise09_met() {
        FormulaVisitors x = of("a?b^3+-2:[c*4]", "(a+1)^9", "a^0");
        int[] other = {1, 2, 0, 0, 2, 0, 1, 1, 7};
        for (int kind = 0; kind < 9; kind++) due("met " + kind, x.met(0, kind), other[kind]);
        x.let(0, -1);
        int[] one = {1, 2, 1, 1, 0, 1, 1, 0, 7};
        for (int kind = 0; kind < 9; kind++) due("met " + kind, x.met(0, kind), one[kind]);
        due("a power asks once", x.met(1, 8), 4);
        due("a power of 0 asks once", x.met(2, 8), 2);
        due("met 9", x.met(0, 9), -2);
        due("met -1", x.met(0, -1), -2);
        due("BAD", x.met(12, 0), -2);
        due("BAD ahead of STATE", x.met(7, 9), -2);
        due("STATE", x.met(7, 8), -3);
    }

    static void promise10_purse() {
        FormulaVisitors x = of("a?1+2+3:[4]");
        due("other", x.purse(0, 5), 16);
        due("dear", x.purse(0, 4), LONG_DEAR);
        x.let(0, 1);
        due("one", x.purse(0, 7), 6);
        due("dear", x.purse(0, 6), LONG_DEAR);
        due("nothing in it", x.purse(0, 0), LONG_DEAR);
        due("9999", x.purse(0, 9999), 6);
        due("10000", x.purse(0, 10000), LONG_BAD);
        due("-1", x.purse(0, -1), LONG_BAD);
        due("BAD", x.purse(12, 5), LONG_BAD);
        due("BAD ahead of STATE", x.purse(1, -1), LONG_BAD);
        due("STATE", x.purse(1, 0), LONG_STATE);
    }

    static void promise11_print() {
        duePrinted("(a)", "a");
        duePrinted("0012", "12");
        duePrinted("a+(b+c)", "a+(b+c)");
        duePrinted("(a+b)+c", "a+b+c");
        duePrinted("a-(b+c)", "a-(b+c)");
        duePrinted("a-(b*c)", "a-b*c");
        duePrinted("a--b", "a--b");
        duePrinted("a-(-b)", "a--b");
        duePrinted("a+-b", "a-b");
        duePrinted("-a+b", "-a+b");
        duePrinted("-(a+b)", "-(a+b)");
        duePrinted("-(a*b)", "-(a*b)");
        duePrinted("-(a^2)", "-(a^2)");
        duePrinted("(-a)^2", "-a^2");
        duePrinted("-(-a)", "--a");
        duePrinted("-[a]", "-[a]");
        duePrinted("[(a?b:c)]", "[a?b:c]");
        duePrinted("(a?b:c)+d", "(a?b:c)+d");
        duePrinted("a?(b?c:d):e", "a?(b?c:d):e");
        duePrinted("(a+b)?(c-d):(e*f)", "a+b?c-d:e*f");
        duePrinted("a*(b*c)", "a*(b*c)");
        duePrinted("(a*b)*c", "a*b*c");
        duePrinted("a*(b+c)", "a*(b+c)");
        duePrinted("a*-(b)", "a*-b");
        duePrinted("(a^2)^3", "a^2^3");
        duePrinted("(a*b)^3*(c^0)", "(a*b)^3*c^0");
        duePrinted("-(a?b:c)", "-(a?b:c)");
        FormulaVisitors x = of("a+b");
        due("size", x.print(0, -1), 3);
        due("byte 2", x.print(0, 2), 'b');
        due("byte 3", x.print(0, 3), -12);
        due("byte -2", x.print(0, -2), -12);
        due("byte MIN", x.print(0, MIN), -12);
        due("BAD", x.print(12, -1), -2);
        due("STATE", x.print(3, -9), -3);
    }

    static void promise11_printedNumbers() {
        FormulaVisitors x = of("0-8*(4096^5)", "8*(4096^5)-1");
        x.turn(0, 1, 0);
        due("least long", x.worth(0), Long.MIN_VALUE);
        dueText("least long", printed(x, 0), "-9223372036854775808");
        x.turn(1, 1, 0);
        dueText("greatest long", printed(x, 1), "9223372036854775807");
        FormulaVisitors y = of("0-3", "a", "-a", "b-a", "b+a", "b*a", "a^2", "a?a:a", "[a]");
        y.turn(0, 1, 0);
        String[] want = {"-3", "-3", "--3", "b--3", "b+-3", "b*-3", "-3^2", "-3?-3:-3", "[-3]"};
        for (int i = 1; i < want.length; i++) {
            y.turn(i, 20, 0);
            dueText("a number below 0", printed(y, i), want[i]);
        }
    }

    static void promise12_measure() {
        FormulaVisitors x = of("a?[b*-c]:d^9", "-(-a)+b", "a^0", "a", "[[a]]");
        // a PICK of a, [b*-c] (of 5 nodes) and d^9 (of 2)
        int[] want = {9, 5, 1 + 1 + (3 + 3 + 1 + 1 + 1) + (9 + 1), 4, 1 + 1 + 10, 1 + 1 + (2 * 4 + 2) + 2};
        for (int m = 0; m < 6; m++) due("measure " + m, x.measure(0, m), want[m]);
        write(x, 5, "a?[b*-c]^9:d");
        due("lazy of the greater", x.measure(5, 4), 1 + 1 + 9 + 9);
        due("depth", x.measure(1, 1), 4);
        due("reach", x.measure(1, 3), 2);
        due("work of ^0", x.measure(2, 2), 1);
        due("lazy of ^0", x.measure(2, 4), 1);
        due("leaf", x.measure(3, 5), 1);
        due("opened twice", x.measure(4, 5), 2 * (2 * 1 + 2) + 2);
        x.turn(4, 20, 4);
        x.turn(4, 20, 4);
        x.turn(4, 20, 4);
        due("9999 at most", x.measure(4, 5), 9999);
        due("kind 6", x.measure(0, 6), -2);
        due("kind -1", x.measure(0, -1), -2);
        due("BAD", x.measure(12, 0), -2);
        due("BAD ahead of STATE", x.measure(7, 6), -2);
        due("STATE", x.measure(7, 0), -3);
    }

    static void promise13_code() {
        FormulaVisitors x = of("a?-5:[h]^7", "b*(c+d*e)", "a?(b?1:2):3");
        int[] lines = {10, 560, 0, 20, 970, 17, 80, 40, 57};
        for (int k = 0; k < lines.length; k++) due("line " + k, x.code(0, k), lines[k]);
        due("lines", x.code(0, -1), 9);
        due("steps of other", x.code(0, -2), 6);
        due("high of other", x.code(0, -3), 2);
        x.let(0, 9);
        due("steps of one", x.code(0, -2), 5);
        due("high of one", x.code(0, -3), 1);
        int[] sums = {11, 12, 13, 14, 40, 30, 40};
        for (int k = 0; k < sums.length; k++) due("line " + k, x.code(1, k), sums[k]);
        due("high", x.code(1, -3), 4);
        due("steps", x.code(1, -2), 7);
        int[] picks = {10, 860, 11, 660, 0, 770, 0, 970, 0};
        for (int k = 0; k < picks.length; k++) due("line " + k, x.code(2, k), picks[k]);
        due("steps of picks", x.code(2, -2), 6);
        due("line 9", x.code(0, 9), -12);
        due("line MAX", x.code(0, MAX), -12);
        due("line -4", x.code(0, -4), -2);
        due("BAD", x.code(12, 0), -2);
        due("BAD ahead of STATE", x.code(7, -4), -2);
        due("STATE ahead of -12", x.code(7, 99), -3);
    }

    static void promise14_run() {
        FormulaVisitors x = of("a?b^3+-2:[c*4]", "9999^9*9999^9-(b-c)*[d]", "(a?[b]:-c)*(2+(d?1:2))");
        for (int i = 0; i < 4; i++) {
            for (int v = -2; v < 3; v++) {
                x.let(i, v * 77777);
                due("run 0", x.run(0), x.worth(0));
                due("run 1", x.run(1), x.worth(1));
                due("run 2", x.run(2), x.worth(2));
            }
        }
        due("BAD", x.run(12), LONG_BAD);
        due("STATE", x.run(4), LONG_STATE);
    }

    static void promise15_alike() {
        FormulaVisitors x = of("a*a+[a*a]", "a*a+[a*a]", "a*a+[a*b]", "[b*(a*a)]", "(a*a)*(a*a)", "[a*a]", "5", "a^2", "a^3");
        due("alike", x.alike(0, 1, 0), 1);
        due("itself", x.alike(0, 0, 0), 1);
        due("another name", x.alike(0, 2, 0), 0);
        due("a square isn't its product", x.alike(4, 5, 0), 0);
        due("another digit", x.alike(7, 8, 0), 0);
        due("shared", x.alike(0, 2, 1), 3);
        due("shared, whole", x.alike(0, 1, 1), 8);
        due("shared, a part of it", x.alike(5, 0, 1), 4);
        due("shared, nothing", x.alike(0, 6, 1), 0);
        due("shared names", x.alike(7, 8, 1), 1);
        due("unlike", x.alike(0, 1, 2), 4);
        due("unlike", x.alike(4, 11, 2), 3);
        due("other EMPTY, what 0", x.alike(0, 11, 0), -3);
        due("other EMPTY, what 1", x.alike(0, 11, 1), -3);
        due("EMPTY", x.alike(11, 0, 2), -3);
        due("other 12", x.alike(0, 12, 2), -2);
        due("other -1", x.alike(11, -1, 2), -2);
        due("formula 12", x.alike(12, 0, 0), -2);
        due("what 3", x.alike(11, 0, 3), -2);
        due("what -1", x.alike(0, 0, -1), -2);
    }

    static void promise16_degree() {
        FormulaVisitors x = of("a^3*b-a*[a^2]", "b?a^2:a^5", "a?b:c", "(a^0?b:c)+a", "(a?b:c)^0", "7", "[[[a^9]^9]^9]^9", "-(a?1:2)");
        due("degree", x.degree(0, 0), 5);
        due("degree in b", x.degree(0, 1), 1);
        due("degree in h", x.degree(0, 7), 0);
        due("pick", x.degree(1, 0), 5);
        due("which has it", x.degree(1, 1), -1);
        write(x, 8, "b?a^5:a^2");
        due("the greater of both", x.degree(8, 0), 5);
        due("which has it", x.degree(2, 0), -1);
        due("which hasn't it", x.degree(2, 2), 1);
        due("has it, of degree 0", x.degree(3, 0), -1);
        due("a part's is NONE", x.degree(4, 0), -1);
        due("a part's is NONE", x.degree(7, 0), -1);
        due("number", x.degree(5, 0), 0);
        due("9999 at most", x.degree(6, 0), 9999);
        due("name 8", x.degree(0, 8), -2);
        due("name -1", x.degree(0, -1), -2);
        due("BAD ahead of STATE", x.degree(9, 8), -2);
        due("STATE", x.degree(9, 0), -3);
    }

    static void promise17_sought() {
        FormulaVisitors x = of("[a]-b", "a+b");
        x.let(1, 4);
        x.let(0, 99);
        due("two", x.sought(0, 0, -10, 21, 0, 0), 2);
        due("the first", x.sought(0, 0, -10, 21, 0, 1), -2);
        due("the second", x.sought(0, 0, -1, 12, 0, 1), 2);
        due("none", x.sought(0, 0, 3, 100, 0, 0), 0);
        due("none", x.sought(0, 0, 3, 100, 0, 1), 0);
        due("all", x.sought(0, 5, 3, 100, 99 * 99 - 4, 0), 100);
        due("wraps", x.sought(1, 0, MAX, 2, MIN + 4, 1), MIN);
        due("w as a long", x.sought(1, 0, MAX, 1, MIN + 3, 0), 0);
        due("value stays", x.count(10), 99);
        due("n 0", x.sought(0, 0, 0, 0, 0, 0), -2);
        due("n 101", x.sought(0, 0, 0, 101, 0, 0), -2);
        due("n 1", x.sought(0, 0, 2, 1, 0, 0), 1);
        due("what 2", x.sought(0, 0, 0, 1, 0, 2), -2);
        due("what -1", x.sought(0, 0, 0, 1, 0, -1), -2);
        due("name 8", x.sought(0, 8, 0, 1, 0, 0), -2);
        due("formula 12", x.sought(12, 0, 0, 1, 0, 0), -2);
        due("BAD ahead of STATE", x.sought(5, 0, 0, 0, 0, 0), -2);
        due("STATE", x.sought(5, 0, 0, 1, 0, 0), -3);
    }

    static void promise18_drawn() {
        FormulaVisitors x = of("a", "b", "c", "d", "e", "f", "g", "h", "7");
        for (int i = 0; i < 8; i++) x.let(i, 1000);
        for (int seed : new int[] {0, 1, 7, -1, MAX, MIN, 123456789}) {
            int z = seed;
            for (int i = 0; i < 8; i++) {
                z = z * 1103515245 + 12345;
                due("drawn " + i + " by " + seed, x.drawn(i, seed), (z >>> 9) % 21 - 10);
            }
        }
        due("drawn(a, 7)", x.drawn(0, 7), -10);
        due("number", x.drawn(8, 5), 7);
        due("values stay", x.worth(3), 1000);
        due("BAD", x.drawn(12, 0), LONG_BAD);
        due("STATE", x.drawn(9, 0), LONG_STATE);
    }

    static void promise19_chance() {
        for (int m = 1; m <= 20; m++) {
            FormulaVisitors x = of("a*a-b");
            for (int w : new int[] {-3, 0, 9, 40, MAX, MIN}) {
                int within = 0;
                for (int i = 0; i < m; i++) if (x.drawn(0, MAX - 5 + i) <= w) within++;
                int above = x.chance(0, MAX - 5, m, w, 0);
                int below = x.chance(0, MAX - 5, m, w, 1);
                due("as much", (long) above * m, (long) below * within);
                due("lowest terms", java.math.BigInteger.valueOf(above).gcd(java.math.BigInteger.valueOf(below)).intValue(), 1);
            }
        }
        FormulaVisitors x = of("a*a-b", "5");
        due("all", x.chance(1, 3, 20, 5, 0), 1);
        due("all", x.chance(1, 3, 20, 5, 1), 1);
        due("none", x.chance(1, 3, 20, 4, 0), 0);
        due("none", x.chance(1, 3, 20, 4, 1), 1);
        due("m 0", x.chance(0, 0, 0, 0, 0), -2);
        due("m 21", x.chance(0, 0, 21, 0, 0), -2);
        due("part 2", x.chance(0, 0, 1, 0, 2), -2);
        due("part -1", x.chance(0, 0, 1, 0, -1), -2);
        due("formula 12", x.chance(12, 0, 1, 0, 0), -2);
        due("BAD ahead of STATE", x.chance(2, 0, 21, 0, 0), -2);
        due("STATE", x.chance(2, 0, 20, 0, 0), -3);
    }

    static void promise20_tells() {
        FormulaVisitors x = of("a*3+2", "3*b+2", "2+a+a+a", "a^0*2+b*0+c?7:7", "99+0*5+a", "(1-1)*a");
        x.film(0, 0, 0, 20);
        due("so", x.tells(0, 0, 0, 0), -1);
        due("so by another name", x.tells(0, 1, 1, 0), -1);
        due("otherwise", x.tells(0, 1, 0, 0), 1);
        due("formulas", x.tells(0, 5, 0, 1), 0b101);
        due("formulas by b", x.tells(0, 5, 1, 1), 0b10);
        due("names", x.tells(0, 1, 0, 2), 0b10);
        x.film(1, 0, 7, 5);
        due("names that aren't there", x.tells(1, 0, 0, 2), 0b11111110);
        x.let(0, 2);
        x.film(1, 4, 7, 5);
        due("number that doesn't matter", x.tells(1, 4, 7, 12), 100);
        due("the least", x.tells(1, 4, 7, 102), 0);
        due("number that does", x.tells(1, 4, 7, 10), 1);
        due("the least", x.tells(1, 4, 7, 100), 99);
        x.cell(1, 0, 100000);
        due("no number", x.tells(1, 4, 7, 10), 0);
        due("no least", x.tells(1, 4, 7, 100), -1);
        due("otherwise at 0", x.tells(1, 4, 7, 0), 0);
        dueText("formula stays", printed(x, 4), "99+0*5+a");
        due("value stays", x.count(10), 2);
        x.sheet(2, 0, 0);
        due("nothing told", x.tells(2, 0, 0, 0), -1);
        due("nothing told", x.tells(2, 0, 0, 1), 0b111111);
        due("nothing told", x.tells(2, 0, 0, 2), 255);
        due("nothing told", x.tells(2, 0, 0, 10), 100);
        due("nothing told", x.tells(2, 0, 0, 100), 0);
        x.sheet(2, 0, 2);
        x.cell(2, 1, 65535);
        write(x, 6, "-a");
        due("of shorts", x.tells(2, 6, 0, 0), -1);
        write(x, 6, "a*(1-2^9*2^9*2^9*2^5)-0");
        x.sheet(2, 1, 3);
        x.cell(2, 1, 1);
        x.cell(2, 2, 2);
        due("lowest 32 bits", x.tells(2, 6, 0, 0), -1);
    }

    static void promise20_tellsRefusals() {
        FormulaVisitors x = of("a+1+2", "1" + "+1".repeat(41));
        x.sheet(0, 1, 20);
        due("sheet 4", x.tells(4, 0, 0, 0), -2);
        due("sheet -1", x.tells(-1, 0, 0, 0), -2);
        due("formula 12", x.tells(0, 12, 0, 0), -2);
        due("name 8", x.tells(0, 0, 8, 1), -2);
        for (int what : new int[] {-1, 3, 9, 51, 99, 141, MAX, MIN}) due("what " + what, x.tells(0, 1, 0, what), -2);
        due("number 40", x.tells(0, 1, 0, 50), 0);
        due("number 40", x.tells(0, 1, 0, 140), -1);
        due("no number 2", x.tells(0, 0, 0, 12), -2);
        due("no number 2", x.tells(0, 0, 0, 102), -2);
        due("no number ahead of -11", x.tells(1, 0, 0, 12), -2);
        due("BAD ahead of STATE", x.tells(1, 5, 0, 3), -2);
        due("no number ahead of STATE", x.tells(0, 5, 0, 10), -2);
        due("STATE ahead of -11", x.tells(1, 5, 0, 0), -3);
        due("STATE ahead of too long", x.tells(0, 5, 0, 1), -3);
        due("-11", x.tells(1, 0, 0, 2), -11);
        x.sheet(1, 1, 21);
        due("tells more than 20", x.tells(1, 0, 0, 0), -2);
        due("20", x.tells(0, 0, 0, 0), 0);
    }

    static void promise21_film() {
        FormulaVisitors x = of("a*b", "a^9");
        x.let(1, 100000);
        x.let(0, 5);
        x.sheet(2, 0, 40);
        due("film", x.film(2, 0, 0, 20), 20);
        due("ints", x.sheet(0, 1, 20), 1);
        due("of ints", x.copy(2, 0, 0, 0, 20), 20);
        due("of 20", x.cell(2, 20, 0), -12);
        due("as told", x.tells(2, 0, 0, 0), -1);
        due("value stays", x.count(10), 5);
        due("film 0", x.film(2, 0, 0, 0), 0);
        due("there, of none", x.cell(2, 0, 0), -12);
        due("lowest 32 bits", x.film(3, 1, 0, 20), 20);
        due("lowest 32 bits", x.tells(3, 1, 0, 0), -1);
        due("n 21", x.film(2, 0, 0, 21), -2);
        due("n -1", x.film(2, 0, 0, -1), -2);
        due("sheet 4", x.film(4, 0, 0, 1), -2);
        due("formula 12", x.film(0, 12, 0, 1), -2);
        due("name 8", x.film(0, 0, 8, 1), -2);
        due("BAD ahead of STATE", x.film(0, 5, 0, 21), -2);
        due("STATE", x.film(0, 5, 0, 2), -3);
        due("sheet stays", x.cell(0, 19, 0), 1);
    }

    static void promise22And23_imageAndBack() {
        FormulaVisitors x = of("a*b", "b");
        due("no image", x.back(), -3);
        x.let(1, 7);
        due("image", x.image(), 2);
        x.let(1, 8);
        x.turn(0, 20, 1);
        x.turn(1, 0, 0);
        write(x, 5, "c");
        x.sheet(0, 1, 3);
        feedAll(x, "a+");
        due("back", x.back(), 2);
        dueText("formula", printed(x, 0), "a*b");
        due("value", x.worth(1), 7);
        due("empty again", x.worth(5), LONG_STATE);
        due("tape isn't kept", x.count(1), 2);
        due("sheet isn't kept", x.cell(0, 2, 1), 1);
        x.turn(0, 10, 0);
        due("the image stays", x.back(), 2);
        dueText("formula", printed(x, 0), "a*b");
        x.turn(0, 0, 0);
        due("a new image", x.image(), 1);
        x.turn(0, 30, 1);
        due("the new one", x.back(), 1);
        due("EMPTY in it", x.print(0, -1), -3);
        due("of none", new FormulaVisitors().image(), 0);
    }

    static void promise24_count() {
        FormulaVisitors x = of("a*b", "b", "[c]");
        x.let(3, -5);
        due("formulas", x.count(0), 3);
        due("tape", x.count(1), 0);
        due("nodes", x.count(2), 6);
        due("value", x.count(13), -5);
        for (int what : new int[] {-1, 3, 9, 18, MAX, MIN}) due("count " + what, x.count(what), -2);
    }

    static void promise25_sheet() {
        FormulaVisitors x = new FormulaVisitors();
        due("sheet", x.sheet(0, 0, 40), 1);
        due("last item", x.cell(0, 39, 1), 1);
        due("behind it", x.cell(0, 40, 1), -12);
        due("anew", x.sheet(0, 0, 2), 1);
        due("of none", x.sheet(1, 1, 0), 1);
        due("of none", x.cell(1, 0, 1), -12);
        due("missing", x.sheet(1, -1, 99), 1);
        due("missing", x.sheet(1, -1, -99), 1);
        due("missing", x.cell(1, 0, 1), -11);
        due("sheet 4", x.sheet(4, 0, 1), -2);
        due("sheet -1", x.sheet(-1, -1, 1), -2);
        due("sort 2", x.sheet(0, 2, -1), -2);
        due("sort -2", x.sheet(0, -2, 1), -2);
        due("n 41", x.sheet(0, 1, 41), -2);
        due("n MAX", x.sheet(0, 1, MAX), -2);
        due("n -1", x.sheet(0, 1, -1), -14);
        due("n MIN", x.sheet(0, 1, MIN), -14);
        FormulaVisitors y = of("a*0");
        y.sheet(0, 1, 3);
        y.cell(0, 1, 9);
        y.sheet(0, 1, 3);
        due("all 0", y.tells(0, 0, 0, 0), -1);
    }

    static void promise26_cell() {
        FormulaVisitors x = of("a*(7000*10)", "a*4464");
        x.sheet(0, 0, 2);
        x.sheet(1, 1, 2);
        x.cell(0, 1, 70000);
        x.cell(1, 1, 70000);
        due("shorts", x.tells(0, 1, 0, 0), -1);
        due("ints", x.tells(1, 0, 0, 0), -1);
        due("sheet 4", x.cell(4, 0, 0), -2);
        due("sheet -1", x.cell(-1, 9, 0), -2);
        due("-11 ahead of -12", x.cell(2, -1, 0), -11);
        due("item 2", x.cell(0, 2, 0), -12);
        due("item -1", x.cell(0, -1, 0), -12);
        due("item MAX", x.cell(0, MAX, 0), -12);
    }

    static void promise27_copy() {
        FormulaVisitors x = of("a", "a?a-1:0");
        x.film(0, 0, 0, 6);
        due("on", x.copy(0, 0, 0, 1, 5), 5);
        due("as they were", x.tells(0, 1, 0, 0), -1);
        due("back", x.copy(0, 1, 0, 0, 5), 5);
        x.cell(0, 5, 5);
        due("as they were", x.tells(0, 0, 0, 0), -1);
        x.sheet(1, 1, 3);
        due("none at the end", x.copy(0, 6, 1, 3, 0), 0);
        due("none behind the end", x.copy(0, 7, 1, 3, 0), -12);
        due("none behind the other's end", x.copy(0, 6, 1, 4, 0), -12);
        due("to another", x.copy(0, 0, 1, 0, 3), 3);
        due("as there", x.tells(1, 0, 0, 0), -1);
        due("above the other", x.copy(0, 0, 1, 0, 4), -12);
        due("above the first", x.copy(1, 1, 0, 0, 3), -12);
        due("n -1", x.copy(0, 0, 1, 0, -1), -12);
        due("i -1", x.copy(0, -1, 1, 0, 1), -12);
        due("j -1", x.copy(0, 0, 1, -1, 1), -12);
        due("no sum wraps", x.copy(0, MAX, 1, 0, MAX), -12);
        due("no sum wraps", x.copy(0, 1, 1, 1, MAX), -12);
        due("no difference wraps", x.copy(0, 1, 1, 1, MIN), -12);
        x.sheet(2, 0, 3);
        due("-13 ahead of -12", x.copy(0, 9, 2, 9, -1), -13);
        due("-11", x.copy(0, 9, 3, 9, 1), -11);
        due("-11", x.copy(3, 9, 2, 9, 1), -11);
        due("BAD ahead of -11", x.copy(3, 0, 4, 0, 1), -2);
        due("BAD", x.copy(-1, 0, 0, 0, 1), -2);
    }

    public static void main(String[] args) {
        runAll(PromisesTest.class);
    }
}
