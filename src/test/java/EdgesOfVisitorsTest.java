/** Promises 8 to 19: each sentence of the document that names a boundary, by a test of its own. */
public final class EdgesOfVisitorsTest extends Checks {
    /** Formula 0 is h in so many SQUARES. */
    private static FormulaVisitors inSquares(int n) {
        FormulaVisitors x = of("h", "[[[[[h]]]]]", "[h]");
        for (int i = 0; i < n / 5; i++) x.turn(0, 27, 1);
        for (int i = 0; i < n % 5; i++) x.turn(0, 27, 2);
        due("nodes in squares", x.measure(0, 0), n + 1);
        return x;
    }

    /** Formula 0 is b+(b+(b+ .. a)) with so many sums (a number that 3 divides). */
    private static FormulaVisitors inSums(int n) {
        FormulaVisitors x = of("a", "b+(b+(b+a))");
        for (int i = 0; i < n; i += 3) x.turn(0, 20, 1);
        due("nodes in sums", x.measure(0, 0), 2 * n + 1);
        return x;
    }

    // ---- promise 8: worth

    static void promise08_noSuchFormulaIsBad() {
        for (int f : NO_FORMULA) dueRefused("worth " + f, LONG_BAD, x -> x.worth(f));
    }

    static void promise08_anEmptyFormulaIsState() {
        dueRefused("worth of an EMPTY one", LONG_STATE, x -> x.worth(2));
        dueRefused("worth of an EMPTY one", LONG_STATE, x -> x.worth(11));
    }

    static void promise08_aWorthMayBeAsARefusal() {
        dueWorth("-(1000*1000+2)", LONG_BAD);
        dueWorth("-(1000*1000+3)", LONG_STATE);
    }

    static void promise08_sumsWrap() {
        dueWorth(GREATEST + "+1", Long.MIN_VALUE);
        dueWorth(LEAST + "-1", Long.MAX_VALUE);
        dueWorth(LEAST + "+" + LEAST, 0);
        dueWorth(GREATEST + "+" + GREATEST, -2);
    }

    static void promise08_theLeastLongNegatedIsItself() {
        dueWorth("-(" + LEAST + ")", Long.MIN_VALUE);
        dueWorth("-" + GREATEST, -Long.MAX_VALUE);
        dueWorth("0-" + LEAST, Long.MIN_VALUE);
    }

    static void promise08_productsWrap() {
        dueWorth(GREATEST + "*2", -2);
        dueWorth(GREATEST + "*" + GREATEST, 1);
        dueWorth("4096^5*16", 0);
        dueWorth("(" + LEAST + ")*-1", Long.MIN_VALUE);
    }

    static void promise08_powersWrap() {
        dueWorth("128^9", Long.MIN_VALUE);
        dueWorth("256^8", 0);
        dueWorth("(256^8+3)^2", 9);
        dueWorth("9999^9^9", Oracle.power(Oracle.power(9999, 9), 9));
        dueWorth("(-3)^9", -19683);
    }

    static void promise08_squaresWrap() {
        dueWorth("[4096^5]", 0);
        dueWorth("[" + GREATEST + "]", 1);
        dueWorth("[9999^9]", Oracle.power(9999, 18));
    }

    static void promise08_namesAreInts() {
        FormulaVisitors x = of("a+1", "-b", "a*a", "[b]", "a^2");
        x.let(0, MAX);
        x.let(1, MIN);
        due("a sum of longs", x.worth(0), 1L + MAX);
        due("a long negated", x.worth(1), 1L + MAX);
        due("a product of longs", x.worth(2), (long) MAX * MAX);
        due("a square of longs", x.worth(3), (long) MIN * MIN);
        due("a power of longs", x.worth(4), (long) MAX * MAX);
    }

    static void promise08_aPowerOf0TimesIs1() {
        dueWorth("7^0", 1);
        dueWorth("0^0", 1);
        dueWorth("(" + LEAST + ")^0", 1);
        dueWorth("0^1", 0);
        dueWorth("0^9", 0);
        dueWorth("7^1", 7);
    }

    static void promise08_whichIsLookedAtAsALong() {
        dueWorth("2^8^4?1:2", 1);
        dueWorth(LEAST + "?1:2", 1);
        dueWorth("-1?1:2", 1);
        dueWorth("256^8?1:2", 2);
        dueWorth("0?1:2", 2);
        dueWorth("-0?1:2", 2);
    }

    static void promise08_formulasOf200Nodes() {
        FormulaVisitors x = withNodes(200);
        x.let(0, 3);
        due("199 signs", x.worth(0), -3);
        FormulaVisitors y = inSums(99);
        y.let(0, 7);
        y.let(1, MAX);
        due("99 sums", y.worth(0), 7 + 99L * MAX);
        FormulaVisitors z = inSquares(199);
        z.let(7, -1);
        due("199 squares", z.worth(0), 1);
        z.let(7, 2);
        due("199 squares of 2", z.worth(0), 0);
    }

    // ---- promise 9: met

    static void promise09_noSuchFormulaIsBad() {
        for (int f : NO_FORMULA) dueRefused("met " + f, BAD, x -> x.met(f, 8));
    }

    static void promise09_noSuchKindIsBad() {
        for (int kind : new int[] {-1, 9, MAX, MIN}) dueRefused("met, kind " + kind, BAD, x -> x.met(0, kind));
    }

    static void promise09_anEmptyFormulaIsState() {
        for (int kind = 0; kind < 9; kind++) {
            int k = kind;
            dueRefused("met, EMPTY", STATE, x -> x.met(2, k));
        }
    }

    static void promise09_badIsNamedAheadOfState() {
        dueRefused("EMPTY, kind 9", BAD, x -> x.met(2, 9));
        dueRefused("EMPTY, kind -1", BAD, x -> x.met(11, -1));
    }

    static void promise09_ofEachKindAndOfAll() {
        FormulaVisitors x = of("a?-(b+2)*c^3:7", "a?-(b+2)*c^3:[7]");
        x.let(0, 1);
        int[] want = {1, 3, 1, 1, 1, 1, 1, 0, 9};
        for (int kind = 0; kind < 9; kind++) due("met " + kind, x.met(0, kind), want[kind]);
        x.let(0, 0);
        int[] other = {1, 1, 0, 0, 1, 0, 1, 1, 5};
        for (int kind = 0; kind < 9; kind++) due("met " + kind, x.met(1, kind), other[kind]);
    }

    static void promise09_aPowerAsksItsTreeOnce() {
        for (int k = 0; k < 10; k++) due("met of ^" + k, of("(a+b)^" + k).met(0, 8), 4);
    }

    static void promise09_aSquareAsksItsTreeOnce() {
        FormulaVisitors x = of("[[a+b]]", "[a]*[a]");
        due("squares", x.met(0, 7), 2);
        due("products", x.met(0, 4), 2);
        due("names", x.met(0, 1), 2);
        due("all", x.met(0, 8), 7);
        due("all of the product", x.met(1, 8), 7);
        due("its products", x.met(1, 4), 3);
        due("of 199 squares", inSquares(199).met(0, 8), 399);
    }

    static void promise09_onlyOneOrOtherIsAsked() {
        FormulaVisitors x = of("a?b:c+d", "(2^8^4)?b:c+d");
        due("other", x.met(0, 8), 5);
        due("one, of a which that 32 bits don't tell", x.met(1, 1), 1);
        x.let(0, MIN);
        due("one", x.met(0, 8), 3);
        FormulaVisitors y = of("(a?(b?1:2):3)*(c?4:[5])");
        due("a pick that isn't asked", y.met(0, 6), 2);
        y.let(0, 1);
        due("a pick that is asked", y.met(0, 6), 3);
    }

    // ---- promise 10: purse

    static void promise10_noSuchFormulaIsBad() {
        for (int f : NO_FORMULA) dueRefused("purse " + f, LONG_BAD, x -> x.purse(f, 9));
    }

    static void promise10_aPurseBelow0OrAbove9999IsBad() {
        for (int n : new int[] {-1, 10000, MAX, MIN}) dueRefused("purse of " + n, LONG_BAD, x -> x.purse(0, n));
    }

    static void promise10_anEmptyFormulaIsState() {
        for (int n : new int[] {0, 9, 9999}) dueRefused("purse, EMPTY", LONG_STATE, x -> x.purse(2, n));
    }

    static void promise10_badIsNamedAheadOfStateAndDear() {
        dueRefused("EMPTY, purse of -1", LONG_BAD, x -> x.purse(2, -1));
        dueRefused("EMPTY, purse of 10000", LONG_BAD, x -> x.purse(2, 10000));
    }

    static void promise10_asManyAsAreMetIsEnough() {
        dueRefused("one less", LONG_DEAR, x -> x.purse(0, 4));
        due("as many", house().purse(0, 5), 17);
        due("one more", house().purse(0, 6), 17);
        due("9999", house().purse(0, 9999), 17);
    }

    static void promise10_aPurseOf0IsEmptyAtOnce() {
        dueRefused("0", LONG_DEAR, x -> x.purse(0, 0));
        FormulaVisitors x = of("7");
        due("0", x.purse(0, 0), LONG_DEAR);
        due("1", x.purse(0, 1), 7);
    }

    static void promise10_squaresAndPowersAndPicksCostWhatIsMet() {
        FormulaVisitors x = of("[a+1]", "(a+1)^9", "a?1+2+3:[4]");
        for (int n = 0; n < 9; n++) {
            due("square, purse of " + n, x.purse(0, n), n < 5 ? LONG_DEAR : 1);
            due("power, purse of " + n, x.purse(1, n), n < 4 ? LONG_DEAR : 1);
            due("pick, purse of " + n, x.purse(2, n), n < 5 ? LONG_DEAR : 16);
        }
        FormulaVisitors y = inSquares(199);
        due("398", y.purse(0, 398), LONG_DEAR);
        due("399", y.purse(0, 399), 0);
    }

    static void promise10_whatIsMetByTheValuesIsPaid() {
        FormulaVisitors x = of("a?1+2+3:[4]+c");
        x.let(2, 30);
        x.drawn(0, 7);
        due("other, 6 are not enough", x.purse(0, 6), LONG_DEAR);
        due("other", x.purse(0, 7), 46);
        x.let(0, MIN);
        x.sought(0, 0, 0, 1, 0, 0);
        due("one, 6 are not enough", x.purse(0, 6), LONG_DEAR);
        due("one", x.purse(0, 7), 6);
    }

    // ---- promise 11: print

    static void promise11_noSuchFormulaIsBad() {
        for (int f : NO_FORMULA) dueRefused("print " + f, BAD, x -> x.print(f, -1));
    }

    static void promise11_anEmptyFormulaIsState() {
        for (int k : new int[] {-1, 0}) dueRefused("print, EMPTY", STATE, x -> x.print(2, k));
    }

    static void promise11_aPlaceOutsideIsMinus12() {
        for (int k : new int[] {-2, 5, 6, MAX, MIN}) dueRefused("byte " + k, OUTSIDE, x -> x.print(0, k));
    }

    static void promise11_theFirstAndTheLastByte() {
        FormulaVisitors x = house();
        due("bytes", x.print(0, -1), 5);
        due("first", x.print(0, 0), 'a');
        due("last", x.print(0, 4), '2');
        due("of one byte", of("h").print(0, 0), 'h');
        due("behind it", of("h").print(0, 1), OUTSIDE);
    }

    static void promise11_badIsNamedAheadOfMinus12() {
        dueRefused("formula 12, byte -2", BAD, x -> x.print(12, -2));
        dueRefused("formula -1, byte MAX", BAD, x -> x.print(-1, MAX));
    }

    static void promise11_stateIsNamedAheadOfMinus12() {
        dueRefused("EMPTY, byte -2", STATE, x -> x.print(2, -2));
        dueRefused("EMPTY, byte MAX", STATE, x -> x.print(2, MAX));
    }

    static void promise11_theGreatestAndTheLeastNumber() {
        FormulaVisitors x = foldedOf(LEAST, GREATEST, "0", "0-1", "9", "10", "0-10", "(0-1)*" + GREATEST);
        String[] want = {"-9223372036854775808", "9223372036854775807", "0", "-1", "9", "10", "-10", "-9223372036854775807"};
        for (int i = 0; i < want.length; i++) dueText("number " + i, printed(x, i), want[i]);
    }

    static void promise11_eachKindInEachPlace() {
        String[] kinds = {"7", "0-7", "c", "-c", "[c]", "c^3", "c*d", "c+d", "c?d:e"};
        String[] alone = {"7", "-7", "c", "-c", "[c]", "c^3", "c*d", "c+d", "c?d:e"};
        String[] places = {"-h", "h+a", "a+h", "h*a", "a*h", "h^2", "h?a:b", "a?h:b", "a?b:h", "[h]"};
        String[] brackets = {".....((((", "........(", ".......((", ".......((", "......(((", "......(((",
                "........(", "........(", "........(", "........."};
        for (int k = 0; k < kinds.length; k++) {
            for (int p = 0; p < places.length; p++) {
                FormulaVisitors x = of(kinds[k], places[p]);
                if (k == 1) x.turn(0, 1, 0);
                x.turn(1, 27, 0);
                String part = brackets[p].charAt(k) == '(' ? "(" + alone[k] + ")" : alone[k];
                String want = p == 2 && k == 3 ? "a-c" : places[p].replace("h", part);
                dueText(kinds[k] + " in " + places[p], printed(x, 1), want);
            }
        }
    }

    static void promise11_aNegatedSecondOfASumIsPrintedAsATerm() {
        String[] kinds = {"b", "-b", "b*c", "b+c", "b^2", "[b]", "b?c:d"};
        String[] want = {"a-b", "a--b", "a-b*c", "a-(b+c)", "a-b^2", "a-[b]", "a-(b?c:d)"};
        for (int i = 0; i < kinds.length; i++) duePrinted("a+-(" + kinds[i] + ")", want[i]);
        duePrinted("a-0", "a-0");
        duePrinted("a+-(1?2:3)*4", "a+-(1?2:3)*4");
        FormulaVisitors x = foldedOf("a-3", "a-(0-3)", "a--3");
        dueText("a number below 0 is no NEGATED", printed(x, 0), "a+-3");
        dueText("a number that isn't below 0", printed(x, 1), "a+3");
        dueText("a number that isn't below 0", printed(x, 2), "a+3");
    }

    static void promise11_theLongestPrint() {
        FormulaVisitors x = inSums(99);
        due("in brackets", x.print(0, -1), 100 + 99 + 2 * 98);
        due("the last bracket", x.print(0, 100 + 99 + 2 * 98 - 1), ')');
        due("the last name", x.print(0, 100 + 99 + 98 - 1), 'a');
        write(x, 2, LEAST);
        x.turn(2, 1, 0);
        due("least numbers", x.turn(0, 21, 2), 199);
        due("least numbers", x.turn(0, 20, 2), 199);
        due("bytes", x.print(0, -1), 20 * 100 + 99 + 2 * 98);
        due("the first byte", x.print(0, 0), '-');
        due("the last digit", x.print(0, 20 * 100 + 99 + 98 - 1), '8');
        due("the last byte", x.print(0, 20 * 100 + 99 + 2 * 98 - 1), ')');
        due("behind it", x.print(0, 20 * 100 + 99 + 2 * 98), OUTSIDE);
    }

    static void promise11_200Nodes() {
        due("signs", withNodes(200).print(0, -1), 200);
        due("squares", inSquares(199).print(0, -1), 2 * 199 + 1);
        FormulaVisitors x = of("a", "-(a*b)^1*1");
        for (int i = 0; i < 33; i++) x.turn(0, 20, 1);
        due("nodes", x.measure(0, 0), 199);
        due("bytes", x.print(0, -1), 1 + 33 * 9);
        due("last byte", x.print(0, 33 * 9), '1');
    }

    // ---- promise 12: measure

    static void promise12_noSuchFormulaIsBad() {
        for (int f : NO_FORMULA) dueRefused("measure " + f, BAD, x -> x.measure(f, 0));
    }

    static void promise12_noSuchKindIsBad() {
        for (int kind : new int[] {-1, 6, MAX, MIN}) dueRefused("measure " + kind, BAD, x -> x.measure(0, kind));
    }

    static void promise12_anEmptyFormulaIsState() {
        for (int kind = 0; kind < 6; kind++) {
            int k = kind;
            dueRefused("measure, EMPTY", STATE, x -> x.measure(2, k));
        }
    }

    static void promise12_badIsNamedAheadOfState() {
        dueRefused("EMPTY, measure 6", BAD, x -> x.measure(2, 6));
        dueRefused("EMPTY, measure -1", BAD, x -> x.measure(2, -1));
    }

    static void promise12_nothingJoinedIs0() {
        FormulaVisitors x = of("a", "7");
        for (int m = 0; m < 6; m++) {
            due("measure of a name", x.measure(0, m), 1);
            due("measure of a number", x.measure(1, m), 1);
        }
    }

    static void promise12_eachKindsOwn() {
        String[] texts = {"-a", "a+b", "a*b", "a^0", "a^9", "a?b:c", "[a]"};
        int[][] want = {{2, 2, 2, 1, 2, 2}, {3, 2, 3, 2, 3, 3}, {3, 2, 5, 2, 5, 3}, {2, 2, 1, 2, 1, 2},
                {2, 2, 10, 2, 10, 2}, {4, 2, 4, 2, 3, 4}, {2, 2, 4, 2, 4, 4}};
        FormulaVisitors x = of(texts);
        for (int f = 0; f < texts.length; f++) {
            for (int m = 0; m < 6; m++) due("measure " + m + " of " + texts[f], x.measure(f, m), want[f][m]);
        }
    }

    static void promise12_theGreaterOfOneAndOtherIsLazy() {
        FormulaVisitors x = of("a?b*c:d", "a?d:b*c", "a?b:c", "a*b?c:d");
        int[] want = {7, 7, 3, 7};
        for (int f = 0; f < 4; f++) due("lazy of " + f, x.measure(f, 4), want[f]);
        due("work of it", x.measure(0, 2), 8);
    }

    /** OPENED is 2 more than twice as much for each SQUARE, from 1 on. */
    private static FormulaVisitors opened(String last) {
        FormulaVisitors x = of("a+b+c+d+e+f", "h", "[h]", last);
        for (int squares = 1; squares <= 11; squares++) {
            x.turn(1, 27, 2);
            int name = squares == 11 ? 0 : squares == 10 ? 1 : squares == 8 ? 2 : squares < 3 ? 5 - squares : -1;
            if (name >= 0) x.turn(0, 20 + name, 1);
        }
        x.turn(0, 25, 3);
        return x;
    }

    static void promise12_noMeasureIsAbove9999() {
        due("9998", opened("h").measure(0, 5), 9998);
        due("9999", opened("-h").measure(0, 5), 9999);
        due("10000", opened("--h").measure(0, 5), 9999);
        due("10091", opened("[[[[[h]]]]]").measure(0, 5), 9999);
        FormulaVisitors x = inSquares(11);
        due("opened 6142", x.measure(0, 5), 6142);
        x.turn(0, 27, 2);
        due("opened 12286", x.measure(0, 5), 9999);
    }

    static void promise12_aMeasureFarAbove9999DoesNotWrap() {
        for (int squares : new int[] {29, 30, 31, 32, 61, 62, 63, 64, 199}) {
            due("opened of " + squares, inSquares(squares).measure(0, 5), 9999);
        }
        FormulaVisitors x = inSquares(99);
        write(x, 3, "g*g");
        due("twice 99 squares", x.turn(3, 26, 0), FULL);
        write(x, 3, "-[g]^9");
        due("more above it", x.turn(3, 26, 0), 103);
        due("opened", x.measure(3, 5), 9999);
    }

    static void promise12_measuresOf200Nodes() {
        FormulaVisitors x = withNodes(200);
        int[] want = {200, 200, 200, 1, 200, 200};
        for (int m = 0; m < 6; m++) due("measure " + m + " of signs", x.measure(0, m), want[m]);
        FormulaVisitors y = inSquares(199);
        int[] squares = {200, 200, 1 + 3 * 199, 200, 1 + 3 * 199, 9999};
        for (int m = 0; m < 6; m++) due("measure " + m + " of squares", y.measure(0, m), squares[m]);
        FormulaVisitors z = of("a", "a^9^9^9^9^9^9^9^9^9", "a^9");
        for (int i = 0; i < 22; i++) z.turn(0, 20, 1);
        z.turn(0, 20, 2);
        due("work of 199 powers", z.measure(0, 2), 9 * 199 + 1);
    }

    // ---- promise 13: code

    static void promise13_noSuchFormulaIsBad() {
        for (int f : NO_FORMULA) dueRefused("code " + f, BAD, x -> x.code(f, 0));
    }

    static void promise13_belowMinus3IsBad() {
        for (int k : new int[] {-4, -5, MIN}) dueRefused("code, " + k, BAD, x -> x.code(0, k));
    }

    static void promise13_anEmptyFormulaIsState() {
        for (int k = -3; k < 2; k++) {
            int line = k;
            dueRefused("code, EMPTY", STATE, x -> x.code(2, line));
        }
    }

    static void promise13_aLineOutsideIsMinus12() {
        for (int k : new int[] {5, 6, MAX}) dueRefused("line " + k, OUTSIDE, x -> x.code(0, k));
    }

    static void promise13_badIsNamedAheadOfState() {
        dueRefused("EMPTY, line -4", BAD, x -> x.code(2, -4));
        dueRefused("formula 12, line MAX", BAD, x -> x.code(12, MAX));
    }

    static void promise13_stateIsNamedAheadOfMinus12() {
        dueRefused("EMPTY, line 99", STATE, x -> x.code(2, 99));
        dueRefused("EMPTY, line MAX", STATE, x -> x.code(2, MAX));
    }

    static void promise13_theFirstAndTheLastLine() {
        FormulaVisitors x = of("h*3+9999", "7");
        due("lines", x.code(0, -1), 5);
        due("first", x.code(0, 0), 17);
        due("last", x.code(0, 4), 30);
        due("of one line", x.code(1, -1), 1);
        due("that line", x.code(1, 0), 0);
        due("behind it", x.code(1, 1), OUTSIDE);
        due("its steps", x.code(1, -2), 1);
        due("how high", x.code(1, -3), 1);
    }

    static void promise13_digitsAndNamesAtTheirEnds() {
        FormulaVisitors x = of("a^0", "h^9");
        due("name a", x.code(0, 0), 10);
        due("power of 0", x.code(0, 1), 50);
        due("name h", x.code(1, 0), 17);
        due("power of 9", x.code(1, 1), 59);
    }

    static void promise13_theMostLines() {
        FormulaVisitors x = inSquares(199);
        due("lines", x.code(0, -1), 399);
        due("steps", x.code(0, -2), 399);
        due("high", x.code(0, -3), 2);
        due("last line", x.code(0, 398), 40);
        due("the one ahead", x.code(0, 397), 80);
        due("behind it", x.code(0, 399), OUTSIDE);
    }

    static void promise13_jumpsToLinesOfThreeDigits() {
        FormulaVisitors x = inSquares(95);
        write(x, 3, "a?g:g");
        due("nodes", x.turn(3, 26, 0), 2 + 2 * 96);
        due("jump if 0, to other's", x.code(3, 1), 100 * (2 + 191 + 1) + 60);
        due("jump, behind other's", x.code(3, 2 + 191), 100 * (2 + 191 + 1 + 191) + 70);
        due("lines", x.code(3, -1), 2 + 191 + 1 + 191);
        due("steps of other", x.code(3, -2), 2 + 191);
        x.let(0, 1);
        due("steps of one", x.code(3, -2), 2 + 191 + 1);
    }

    static void promise13_jumpsToLinesOfThreeDigitsThatAreNotBehindTheLast() {
        FormulaVisitors x = inSquares(95);
        write(x, 3, "(a?g:c)*2+3");
        due("nodes", x.turn(3, 26, 0), 2 + 96 + 1 + 4);
        due("jump, behind other's", x.code(3, 2 + 191), 100 * (2 + 191 + 1 + 1) + 70);
        due("lines", x.code(3, -1), 2 + 191 + 1 + 1 + 4);
        x.let(0, 1);
        x.let(7, -1);
        due("steps of one", x.code(3, -2), 2 + 191 + 1 + 4);
        due("run of one", x.run(3), 1 * 2 + 3);
        x.let(0, 0);
        x.let(2, 50);
        due("steps of other", x.code(3, -2), 2 + 1 + 4);
        due("run of other", x.run(3), 50 * 2 + 3);
    }

    static void promise13_aJumpMayLeadBehindTheLastLine() {
        FormulaVisitors x = of("a?b:c", "(a?b:c)?d:e", "a?(b?1:2):3");
        int[] pick = {10, 460, 11, 570, 12};
        for (int k = 0; k < 5; k++) due("line " + k, x.code(0, k), pick[k]);
        int[] first = {10, 460, 11, 570, 12, 860, 13, 970, 14};
        for (int k = 0; k < 9; k++) due("line " + k, x.code(1, k), first[k]);
        x.let(0, 1);
        x.let(1, 1);
        due("steps", x.code(0, -2), 4);
        due("steps, one inside", x.code(2, -2), 2 + 4 + 1);
        due("run", x.run(2), 1);
    }

    static void promise13_theHighestPile() {
        FormulaVisitors x = inSums(99);
        due("high", x.code(0, -3), 100);
        due("lines", x.code(0, -1), 199);
        due("steps", x.code(0, -2), 199);
        FormulaVisitors y = of("a+b+c+d", "a+(b+(c+d))", "[[[a]]]", "a+[b]", "-a^3");
        int[] high = {2, 4, 2, 3, 1};
        for (int f = 0; f < 5; f++) due("high of " + f, y.code(f, -3), high[f]);
    }

    static void promise13_stepsAndHighAreOfWhatRuns() {
        FormulaVisitors x = of("a?b+(c+(d+1)):7", "2^8^4?1:2+3");
        due("steps of other", x.code(0, -2), 3);
        due("high of other", x.code(0, -3), 1);
        x.let(0, MIN);
        due("steps of one", x.code(0, -2), 2 + 7 + 1);
        due("high of one", x.code(0, -3), 4);
        due("steps, which is a long", x.code(1, -2), 4 + 1 + 1);
    }

    // ---- promise 14: run

    static void promise14_noSuchFormulaIsBad() {
        for (int f : NO_FORMULA) dueRefused("run " + f, LONG_BAD, x -> x.run(f));
    }

    static void promise14_anEmptyFormulaIsState() {
        dueRefused("run of an EMPTY one", LONG_STATE, x -> x.run(2));
        dueRefused("run of an EMPTY one", LONG_STATE, x -> x.run(11));
    }

    static void promise14_numbersOf64BitsArePushed() {
        FormulaVisitors x = foldedOf(LEAST, GREATEST, "2^8^4", "0-1");
        long[] want = {Long.MIN_VALUE, Long.MAX_VALUE, 1L << 32, -1};
        for (int i = 0; i < want.length; i++) {
            due("line", x.code(i, 0), 0);
            due("run", x.run(i), want[i]);
        }
    }

    static void promise14_longsWrap() {
        FormulaVisitors x = of("9999^9*9999^9", GREATEST + "+1", "-(" + LEAST + ")", "[" + GREATEST + "*2]", "128^9");
        long[] want = {Oracle.power(9999, 18), Long.MIN_VALUE, Long.MIN_VALUE, 4, Long.MIN_VALUE};
        for (int i = 0; i < want.length; i++) due("run " + i, x.run(i), want[i]);
    }

    static void promise14_formulasOf200Nodes() {
        FormulaVisitors x = withNodes(200);
        x.let(0, MIN);
        due("199 signs", x.run(0), -(long) MIN);
        FormulaVisitors y = inSums(99);
        y.let(0, 7);
        y.let(1, MIN);
        due("99 sums", y.run(0), 7 + 99L * MIN);
        FormulaVisitors z = inSquares(199);
        z.let(7, -1);
        due("199 squares", z.run(0), 1);
    }

    // ---- promise 15: alike

    static void promise15_noSuchFormulaIsBad() {
        for (int what = 0; what < 3; what++) {
            int w = what;
            for (int f : NO_FORMULA) dueRefused("alike " + f, BAD, x -> x.alike(f, 0, w));
        }
    }

    static void promise15_noSuchOtherIsBadAlsoWhereItMattersNot() {
        for (int what = 0; what < 3; what++) {
            int w = what;
            for (int f : NO_FORMULA) dueRefused("alike to " + f, BAD, x -> x.alike(0, f, w));
        }
    }

    static void promise15_noSuchWhatIsBad() {
        for (int what : new int[] {-1, 3, MAX, MIN}) dueRefused("alike, what " + what, BAD, x -> x.alike(0, 1, what));
    }

    static void promise15_anEmptyFirstIsState() {
        for (int what = 0; what < 3; what++) {
            int w = what;
            dueRefused("EMPTY, what " + what, STATE, x -> x.alike(2, 0, w));
            dueRefused("EMPTY both, what " + what, STATE, x -> x.alike(2, 2, w));
        }
    }

    static void promise15_anEmptyOtherIsStateButForUnlike() {
        dueRefused("other EMPTY, what 0", STATE, x -> x.alike(0, 2, 0));
        dueRefused("other EMPTY, what 1", STATE, x -> x.alike(0, 11, 1));
        due("other EMPTY, what 2", house().alike(0, 2, 2), 5);
        due("other isn't EMPTY, what 2", house().alike(0, 3, 2), 5);
    }

    static void promise15_badIsNamedAheadOfState() {
        dueRefused("EMPTY, other 12", BAD, x -> x.alike(2, 12, 0));
        dueRefused("EMPTY, other -1, what 2", BAD, x -> x.alike(2, -1, 2));
        dueRefused("EMPTY, what 3", BAD, x -> x.alike(2, 0, 3));
        dueRefused("other EMPTY, what -1", BAD, x -> x.alike(0, 2, -1));
        dueRefused("formula 12, other EMPTY", BAD, x -> x.alike(12, 2, 1));
    }

    static void promise15_numbersAreAlikeInAll64Bits() {
        FormulaVisitors x = foldedOf("2^8^4", "0", "2^8^4+1", "1", LEAST, "16^8");
        due("lowest 32 bits alone", x.alike(0, 1, 0), 0);
        due("lowest 32 bits alone", x.alike(2, 3, 0), 0);
        due("lowest 32 bits alone", x.alike(4, 1, 0), 0);
        due("the same number", x.alike(0, 5, 0), 1);
        due("shared", x.alike(0, 1, 1), 0);
    }

    static void promise15_kindsNamesDigitsAndPlacesMatter() {
        String[] all = {"a", "b", "0", "1", "-a", "a^0", "a^1", "[a]", "a+b", "b+a", "a*b", "a?a:b"};
        FormulaVisitors x = of(all);
        for (int f = 0; f < all.length; f++) {
            for (int g = 0; g < all.length; g++) due(all[f] + " to " + all[g], x.alike(f, g, 0), f == g ? 1 : 0);
        }
    }

    static void promise15_whatWasMadeIsAlikeToWhatIsReadSo() {
        String[] texts = {"b?a:-a*a", "(c?[a]:a^2)+0*b", "[a?b:c]", "a+a^3-2*a", "--(b?a:2)*1", "-(a*b?3:a)"};
        for (String text : texts) {
            for (int what : new int[] {1, 10, 21}) {
                FormulaVisitors x = of(text, "a?b:[c]");
                x.turn(0, what, 1);
                String made = printed(x, 0);
                due("nodes of " + made, write(x, 2, made), x.measure(0, 0));
                due("turn " + what + " of " + text + ", as read", x.alike(0, 2, 0), 1);
                due("shared by both", x.alike(2, 0, 1), x.measure(0, 0));
            }
        }
    }

    static void promise15_nothingSharedIs0() {
        FormulaVisitors x = of("a+b", "c*d", "a-c", "b+a");
        due("nothing", x.alike(0, 1, 1), 0);
        due("a name", x.alike(0, 2, 1), 1);
        due("a name, but not all", x.alike(0, 3, 1), 1);
        due("all", x.alike(0, 0, 1), 3);
    }

    static void promise15_theGreatestSharedIsToldWhereverItIs() {
        FormulaVisitors x = of("a*b+c", "c-a*b", "(c+a*b)^2", "7", "[a*b+c]");
        due("a part of both", x.alike(0, 1, 1), 3);
        due("a part of the second's part", x.alike(0, 2, 1), 3);
        due("the whole first", x.alike(0, 4, 1), 5);
        due("the whole second", x.alike(4, 0, 1), 5);
        due("none", x.alike(3, 0, 1), 0);
        FormulaVisitors y = of("1+2+3+-a^2", "-a^2", "7*-a^2");
        due("the longer one's last part is the shorter one", y.alike(0, 1, 1), 3);
        due("the shorter one is the longer one's last part", y.alike(1, 0, 1), 3);
        due("the last part of both", y.alike(0, 2, 1), 3);
        due("the last part of both", y.alike(2, 0, 1), 3);
    }

    static void promise15_allUnlikeAndAllButOneAlike() {
        FormulaVisitors x = of("a+b*3", "a+a+a+a", "7", "-(-a)");
        due("all unlike", x.alike(0, 0, 2), 5);
        due("one name, three sums", x.alike(1, 0, 2), 4);
        due("one node", x.alike(2, 0, 2), 1);
        due("of one kind", x.alike(3, 0, 2), 3);
    }

    static void promise15_formulasOf200Nodes() {
        FormulaVisitors x = withNodes(200);
        due("copied", x.turn(3, 30, 0), 200);
        due("alike", x.alike(0, 3, 0), 1);
        due("shared", x.alike(0, 3, 1), 200);
        due("unlike", x.alike(0, 3, 2), 200);
        write(x, 4, "b");
        x.turn(3, 20, 4);
        due("another last name", x.alike(0, 3, 0), 0);
        due("nothing shared", x.alike(0, 3, 1), 0);
    }

    // ---- promise 16: degree

    static void promise16_noSuchFormulaIsBad() {
        for (int f : NO_FORMULA) dueRefused("degree " + f, BAD, x -> x.degree(f, 0));
    }

    static void promise16_noSuchNameIsBad() {
        for (int name : NO_NAME) dueRefused("degree in " + name, BAD, x -> x.degree(0, name));
    }

    static void promise16_anEmptyFormulaIsState() {
        dueRefused("degree, EMPTY", STATE, x -> x.degree(2, 0));
    }

    static void promise16_badIsNamedAheadOfState() {
        dueRefused("EMPTY, name 8", BAD, x -> x.degree(2, 8));
        dueRefused("EMPTY, name -1", BAD, x -> x.degree(2, -1));
    }

    static void promise16_badIsToldWhereItWereNone() {
        dueRefused("name 8 of a PICK", BAD, x -> x.degree(3, 8));
        dueRefused("a of a PICK by a", NONE, x -> x.degree(3, 0));
    }

    static void promise16_atMost9999() {
        String ahead = "a^9^9^9^9*a^4^9^9^9*a^6^9^9*";
        FormulaVisitors x = of(ahead + "a^3^9*a^8", ahead + "a^4^9", ahead + "a^4^9*a", "a^9^9^9^9^9", "[a^9^9^9^9]", "a^9^9^9^9*a^9^9^9^9");
        int[] want = {9998, 9999, 9999, 9999, 9999, 9999};
        for (int f = 0; f < want.length; f++) due("degree of " + f, x.degree(f, 0), want[f]);
    }

    static void promise16_farAbove9999DoesNotWrap() {
        due("degree of 13 squares", inSquares(13).degree(0, 7), 8192);
        for (int squares : new int[] {14, 30, 31, 32, 62, 63, 64, 199}) {
            due("degree of " + squares + " squares", inSquares(squares).degree(0, 7), 9999);
        }
        FormulaVisitors x = of("a", "a^9^9^9^9^9^9^9^9^9");
        for (int i = 0; i < 22; i++) {
            x.turn(0, 20, 1);
            due("degree of powers", x.degree(0, 0), 9999);
        }
        due("degree in another name", x.degree(0, 7), 0);
    }

    static void promise16_ofEachKind() {
        String[] texts = {"7", "a", "b", "-a^2", "a^2+a^3", "a^3+a^2", "a^2*a^3", "(a^2)^0", "(a^2)^3", "b?a^2:a", "b?a:a^2", "[a^2]"};
        int[] want = {0, 1, 0, 2, 3, 3, 5, 0, 6, 2, 2, 4};
        FormulaVisitors x = of(texts);
        for (int f = 0; f < texts.length; f++) due("degree of " + texts[f], x.degree(f, 0), want[f]);
    }

    static void promise16_aWhichThatHasTheNameIsNone() {
        FormulaVisitors x = of("a?1:2", "a-a?b:c", "a^0?b:c", "b?a:c", "0*a?b:c");
        int[] want = {NONE, NONE, NONE, 1, NONE};
        for (int f = 0; f < want.length; f++) due("degree of " + f, x.degree(f, 0), want[f]);
        due("in another name", x.degree(0, 1), 0);
    }

    static void promise16_noneOfAPartIsNone() {
        String pick = "(a?b:c)";
        String[] texts = {"-" + pick, pick + "+1", "1+" + pick, pick + "*0", "0*" + pick, pick + "^0", pick + "^9",
                "[" + pick + "]", "1?" + pick + ":0", "1?0:" + pick, "(1?" + pick + ":0)?1:2", "a^9^9^9^9^9*" + pick};
        FormulaVisitors x = of(texts);
        for (int f = 0; f < texts.length; f++) due("degree of " + texts[f], x.degree(f, 0), NONE);
        for (int f = 0; f < texts.length - 1; f++) due("in h of " + texts[f], x.degree(f, 7), 0);
    }

    // ---- promise 17: sought

    static void promise17_noSuchFormulaIsBad() {
        for (int f : NO_FORMULA) dueRefused("sought " + f, BAD, x -> x.sought(f, 0, 0, 9, 2, 0));
    }

    static void promise17_noSuchNameIsBad() {
        for (int name : NO_NAME) dueRefused("sought by " + name, BAD, x -> x.sought(0, name, 0, 9, 2, 0));
    }

    static void promise17_lessThan1OrMoreThan100AreBad() {
        for (int n : new int[] {0, -1, 101, MAX, MIN}) dueRefused("sought, n " + n, BAD, x -> x.sought(0, 0, 0, n, 2, 0));
    }

    static void promise17_noSuchWhatIsBad() {
        for (int what : new int[] {-1, 2, MAX, MIN}) dueRefused("sought, what " + what, BAD, x -> x.sought(0, 0, 0, 9, 2, what));
    }

    static void promise17_anEmptyFormulaIsState() {
        dueRefused("sought, EMPTY", STATE, x -> x.sought(2, 0, 0, 9, 2, 0));
        dueRefused("sought, EMPTY", STATE, x -> x.sought(2, 0, 0, 9, 2, 1));
    }

    static void promise17_badIsNamedAheadOfState() {
        dueRefused("EMPTY, name 8", BAD, x -> x.sought(2, 8, 0, 9, 2, 0));
        dueRefused("EMPTY, n 0", BAD, x -> x.sought(2, 0, 0, 0, 2, 0));
        dueRefused("EMPTY, n 101", BAD, x -> x.sought(2, 0, 0, 101, 2, 0));
        dueRefused("EMPTY, what 2", BAD, x -> x.sought(2, 0, 0, 9, 2, 2));
    }

    static void promise17_from1To100ValuesAreTried() {
        FormulaVisitors x = of("a*0", "a");
        for (int n = 1; n <= 100; n++) due("of " + n, x.sought(0, 0, 5, n, 0, 0), n);
        due("low itself", x.sought(1, 0, 5, 1, 5, 0), 1);
        due("the last one", x.sought(1, 0, 5, 100, 104, 1), 104);
        due("behind it", x.sought(1, 0, 5, 100, 105, 0), 0);
        due("ahead of low", x.sought(1, 0, 5, 100, 4, 0), 0);
    }

    static void promise17_valuesWrap() {
        FormulaVisitors x = of("a", "-a");
        due("MAX", x.sought(0, 0, MAX, 1, MAX, 1), MAX);
        due("behind MAX", x.sought(0, 0, MAX, 2, MIN, 1), MIN);
        due("behind MAX", x.sought(0, 0, MAX - 98, 100, MIN, 0), 1);
        due("not yet behind MAX", x.sought(0, 0, MAX - 99, 100, MIN, 0), 0);
        due("MIN", x.sought(0, 0, MIN, 100, MIN + 99, 1), MIN + 99);
        due("MIN negated isn't an int", x.sought(1, 0, MIN, 1, MIN, 0), 0);
    }

    static void promise17_wIsTakenAsALong() {
        FormulaVisitors x = of("a+2^8^4", "a*(2^8^4)", "a-2^8^4");
        due("lowest 32 bits alone", x.sought(0, 0, 0, 100, 7, 0), 0);
        due("lowest 32 bits alone", x.sought(1, 0, 1, 100, 0, 0), 0);
        due("the long itself", x.sought(1, 0, -5, 100, 0, 1), 0);
        due("the long itself", x.sought(1, 0, -5, 100, 0, 0), 1);
        due("-1 is -1", x.sought(2, 0, 0, 100, -1, 0), 0);
        FormulaVisitors y = of("a+" + GREATEST, "a");
        due("sums wrap", y.sought(0, 0, MIN, 1, MAX, 0), 0);
        due("w MIN", y.sought(1, 0, MIN, 1, MIN, 0), 1);
        due("w MAX", y.sought(1, 0, MAX, 1, MAX, 0), 1);
    }

    static void promise17_theFirstIs0IfThereIsNone() {
        FormulaVisitors x = of("a*a");
        due("none", x.sought(0, 0, 1, 100, -1, 1), 0);
        due("none", x.sought(0, 0, 1, 100, -1, 0), 0);
        due("0 itself", x.sought(0, 0, -50, 100, 0, 1), 0);
        due("the first of two", x.sought(0, 0, -50, 100, 9, 1), -3);
        due("two", x.sought(0, 0, -50, 100, 9, 0), 2);
    }

    static void promise17_theValuesStay() {
        FormulaVisitors x = house();
        x.sought(0, 0, 100, 100, 2, 0);
        x.sought(0, 7, 100, 100, 2, 1);
        dueText("state", state(x), state(house()));
        FormulaVisitors y = of("a+b");
        y.let(1, 50);
        due("the other names have their values", y.sought(0, 0, 0, 100, 99, 1), 49);
    }

    // ---- promise 18: drawn

    static void promise18_noSuchFormulaIsBad() {
        for (int f : NO_FORMULA) dueRefused("drawn " + f, LONG_BAD, x -> x.drawn(f, 7));
    }

    static void promise18_anEmptyFormulaIsState() {
        for (int seed : new int[] {0, MAX, MIN}) dueRefused("drawn, EMPTY", LONG_STATE, x -> x.drawn(2, seed));
    }

    /** Drawn told in longs that are cut to 32 bits, where the class may wrap ints. */
    private static int drawnName(int seed, int name) {
        long z = seed & 0xffffffffL;
        for (int i = 0; i <= name; i++) z = z * 1103515245L + 12345 & 0xffffffffL;
        return (int) ((z >> 9) % 21) - 10;
    }

    static void promise18_seedsWrap() {
        FormulaVisitors x = of("a", "b", "c", "d", "e", "f", "g", "h");
        for (int seed : new int[] {0, 1, -1, MAX, MIN, MAX - 1, MIN + 1, 1103515245, -12345}) {
            for (int i = 0; i < 8; i++) due("name " + i + " by " + seed, x.drawn(i, seed), drawnName(seed, i));
        }
    }

    static void promise18_minus10AndPlus10AreDrawn() {
        boolean[] met = new boolean[21];
        FormulaVisitors x = of("a", "h");
        for (int seed = 0; seed < 250; seed++) {
            for (int f = 0; f < 2; f++) {
                long v = x.drawn(f, seed);
                if (v >= -10 && v <= 10) met[(int) v + 10] = true;
                else due("drawn of " + seed, v, drawnName(seed, 7 * f));
            }
        }
        for (int v = 0; v < 21; v++) due("drawn " + (v - 10), met[v] ? 1 : 0, 1);
    }

    static void promise18_theValuesStay() {
        FormulaVisitors x = house();
        x.drawn(0, 7);
        x.chance(0, 7, 20, 3, 0);
        dueText("state", state(x), state(house()));
    }

    // ---- promise 19: chance

    static void promise19_noSuchFormulaIsBad() {
        for (int f : NO_FORMULA) dueRefused("chance " + f, BAD, x -> x.chance(f, 7, 9, 2, 0));
    }

    static void promise19_lessThan1OrMoreThan20SeedsAreBad() {
        for (int m : new int[] {0, -1, 21, MAX, MIN}) dueRefused("chance, m " + m, BAD, x -> x.chance(0, 7, m, 2, 0));
    }

    static void promise19_noSuchPartIsBad() {
        for (int part : new int[] {-1, 2, MAX, MIN}) dueRefused("part " + part, BAD, x -> x.chance(0, 7, 9, 2, part));
    }

    static void promise19_anEmptyFormulaIsState() {
        for (int part = 0; part < 2; part++) {
            int p = part;
            dueRefused("chance, EMPTY", STATE, x -> x.chance(2, 7, 9, 2, p));
        }
    }

    static void promise19_badIsNamedAheadOfState() {
        dueRefused("EMPTY, m 0", BAD, x -> x.chance(2, 7, 0, 2, 0));
        dueRefused("EMPTY, m 21", BAD, x -> x.chance(2, 7, 21, 2, 0));
        dueRefused("EMPTY, part 2", BAD, x -> x.chance(2, 7, 9, 2, 2));
    }

    private static void dueChance(FormulaVisitors x, int seed, int m, int w, int above, int below) {
        due("above, " + seed + " " + m + " " + w, x.chance(0, seed, m, w, 0), above);
        due("below, " + seed + " " + m + " " + w, x.chance(0, seed, m, w, 1), below);
    }

    static void promise19_noneIs0Above1() {
        FormulaVisitors x = of("11");
        for (int m = 1; m <= 20; m++) dueChance(x, 5, m, 10, 0, 1);
    }

    static void promise19_allIs1Above1() {
        FormulaVisitors x = of("11");
        for (int m = 1; m <= 20; m++) dueChance(x, 5, m, 11, 1, 1);
    }

    /** Which of 20 seeds from 0 on draw a as 0 or less: the table is made of drawnName. */
    static void promise19_inLowestTerms() {
        FormulaVisitors x = of("a");
        for (int m = 1; m <= 20; m++) {
            int within = 0;
            for (int i = 0; i < m; i++) if (drawnName(i, 0) <= 0) within++;
            int d = 1;
            for (int k = 2; k <= 20; k++) if (within % k == 0 && m % k == 0) d = k;
            dueChance(x, 0, m, 0, within / d, m / d);
        }
    }

    static void promise19_wOrLessIsIn() {
        FormulaVisitors x = of("a");
        int v = drawnName(7, 0);
        dueChance(x, 7, 1, v, 1, 1);
        dueChance(x, 7, 1, v - 1, 0, 1);
        dueChance(x, 7, 1, v + 1, 1, 1);
        dueChance(x, 7, 1, MAX, 1, 1);
        dueChance(x, 7, 1, MIN, 0, 1);
    }

    static void promise19_worthIsLookedAtAsALong() {
        dueChance(of("2^8^4"), 0, 3, MAX, 0, 1);
        dueChance(of("2^8^4"), 0, 3, 0, 0, 1);
        dueChance(of("-(2^8^4)"), 0, 3, MIN, 1, 1);
        dueChance(of(LEAST), 0, 20, MIN, 1, 1);
        dueChance(of(GREATEST), 0, 20, MAX, 0, 1);
    }

    static void promise19_seedsWrap() {
        FormulaVisitors x = of("a");
        for (int w = -10; w <= 10; w++) {
            int within = (drawnName(MAX, 0) <= w ? 1 : 0) + (drawnName(MIN, 0) <= w ? 1 : 0);
            dueChance(x, MAX, 2, w, within == 2 ? 1 : within, within == 1 ? 2 : 1);
        }
    }

    public static void main(String[] args) {
        runAll(EdgesOfVisitorsTest.class);
    }
}
