/** Promises 1 to 7: each sentence of the document that names a boundary, by a test of its own. */
public final class EdgesOfFormulasTest extends Checks {
    // ---- promise 1: a new object

    static void promise01_allTwelveFormulasAreEmpty() {
        FormulaVisitors x = new FormulaVisitors();
        for (int i = 0; i < 12; i++) due("worth of formula " + i, x.worth(i), LONG_STATE);
        due("formulas that aren't EMPTY", x.count(0), 0);
        due("nodes", x.count(2), 0);
    }

    static void promise01_valuesAre0AtFirst() {
        FormulaVisitors x = of("a+b+c+d+e+f+g+h");
        for (int i = 0; i < 8; i++) due("value of name " + i, x.count(10 + i), 0);
        due("worth of all", x.worth(0), 0);
    }

    static void promise01_allFourSheetsAreMissing() {
        FormulaVisitors x = new FormulaVisitors();
        for (int i = 0; i < 4; i++) due("size of sheet " + i, sizeOf(x, i), -1);
        for (int i = 0; i < 4; i++) due("cell of sheet " + i, x.cell(i, 0, 0), MISSING);
    }

    static void promise01_theTapeIsEmpty() {
        FormulaVisitors x = new FormulaVisitors();
        due("tape", x.count(1), 0);
        due("text", x.text(0), -100);
    }

    static void promise01_thereIsNoImage() {
        due("back", new FormulaVisitors().back(), STATE);
    }

    static void promise01_objectsShareNothing() {
        FormulaVisitors x = house();
        promise01_allTwelveFormulasAreEmpty();
        promise01_valuesAre0AtFirst();
        promise01_allFourSheetsAreMissing();
        promise01_theTapeIsEmpty();
        promise01_thereIsNoImage();
        dueText("state", state(x), state(house()));
    }

    static void promise01_the512thCallIsAnswered() {
        FormulaVisitors x = new FormulaVisitors();
        for (int i = 0; i < 127; i++) {
            x.feed(3, 'a', '+', '1', 0, 0);
            x.text(i % 12);
            x.let(0, i);
            x.turn(i % 12, 10, 0);
        }
        x.feed(3, '[', 'a', ']', 0, 0);
        due("call 510", x.text(3), 2);
        due("call 511", x.image(), 12);
        due("call 512", x.worth(3), 126 * 126);
    }

    // ---- promise 2: feed

    static void promise02_lessThanOneByteIsBad() {
        for (int n : new int[] {0, -1, MIN}) dueRefused("feed " + n, BAD, x -> x.feed(n, 97, 97, 97, 97, 97));
    }

    static void promise02_moreThanFiveBytesAreBad() {
        for (int n : new int[] {6, MAX}) dueRefused("feed " + n, BAD, x -> x.feed(n, 97, 97, 97, 97, 97));
    }

    static void promise02_oneToFiveBytesCome() {
        FormulaVisitors x = new FormulaVisitors();
        int has = 0;
        for (int n = 1; n <= 5; n++) {
            has += n;
            due("feed " + n, x.feed(n, 32, 32, 32, 32, 32), has);
        }
        due("tape", x.count(1), 15);
    }

    static void promise02_bytesNotAskedDontCome() {
        FormulaVisitors x = new FormulaVisitors();
        x.feed(1, 'a', 'b', 'b', 'b', 'b');
        due("text of one byte", x.text(0), 1);
        x.feed(4, 'a', '+', 'c', ' ', 'b');
        due("text of four bytes", x.text(0), 3);
    }

    private static void dueByte(int place, int v, int want) {
        int[] b = {97, 97, 97, 97, 97};
        b[place] = v;
        for (int n = 1; n <= 5; n++) {
            due("feed " + n + ", " + v + " at " + place, new FormulaVisitors().feed(n, b[0], b[1], b[2], b[3], b[4]), want == 0 ? n : want);
        }
        if (want < 0) dueRefused("feed of " + v, want, x -> x.feed(5, b[0], b[1], b[2], b[3], b[4]));
    }

    static void promise02_aByteBelow0IsBadAlsoOneNotAsked() {
        for (int place = 0; place < 5; place++) {
            dueByte(place, -1, BAD);
            dueByte(place, MIN, BAD);
        }
    }

    static void promise02_aByteAbove255IsBadAlsoOneNotAsked() {
        for (int place = 0; place < 5; place++) {
            dueByte(place, 256, BAD);
            dueByte(place, MAX, BAD);
        }
    }

    static void promise02_bytes0And255Come() {
        for (int place = 0; place < 5; place++) {
            dueByte(place, 0, 0);
            dueByte(place, 255, 0);
        }
    }

    private static FormulaVisitors withTape(int bytes) {
        FormulaVisitors x = new FormulaVisitors();
        for (int i = 0; i < bytes - bytes % 5; i += 5) x.feed(5, 32, 32, 32, 32, 32);
        if (bytes % 5 > 0) x.feed(bytes % 5, 32, 32, 32, 32, 32);
        due("tape", x.count(1), bytes);
        return x;
    }

    static void promise02_theTapeHas120BytesAtMost() {
        for (int n = 1; n <= 5; n++) {
            due("feed " + n + " that fits", withTape(120 - n).feed(n, 32, 32, 32, 32, 32), 120);
            FormulaVisitors x = withTape(121 - n);
            due("feed " + n + " that doesn't", x.feed(n, 97, 97, 97, 97, 97), FULL);
            due("tape as it was", x.count(1), 121 - n);
            due("nothing came", x.text(0), -221 + n);
        }
    }

    static void promise02_aFullTapeTakesNoByte() {
        FormulaVisitors x = withTape(120);
        for (int n = 1; n <= 5; n++) due("feed " + n, x.feed(n, 97, 97, 97, 97, 97), FULL);
        due("tape", x.count(1), 120);
        due("text of blanks", x.text(0), -220);
    }

    static void promise02_badIsNamedAheadOfFull() {
        FormulaVisitors x = withTape(120);
        due("feed 0", x.feed(0, 97, 97, 97, 97, 97), BAD);
        due("feed 6", x.feed(6, 97, 97, 97, 97, 97), BAD);
        due("byte 256", x.feed(5, 97, 97, 97, 97, 256), BAD);
        due("byte -1, not asked", x.feed(1, 97, 97, 97, 97, -1), BAD);
    }

    static void promise02_theTapeHasRoomAgainAfterATextOrAFault() {
        FormulaVisitors x = withTape(120);
        x.text(0);
        due("after a fault", x.feed(1, 97, 0, 0, 0, 0), 1);
        due("text", x.text(0), 1);
        due("after a text", x.feed(5, 32, 32, 32, 32, 32), 5);
    }

    // ---- promise 3: text

    static void promise03_noSuchFormulaIsBadAndTheTapeStays() {
        for (int f : NO_FORMULA) dueRefused("text " + f, BAD, x -> x.text(f));
    }

    static void promise03_badIsToldThoughTheTextHasAFault() {
        FormulaVisitors x = new FormulaVisitors();
        due("no text", x.text(12), BAD);
        feedAll(x, "a)");
        due("text 12", x.text(12), BAD);
        due("text -1", x.text(-1), BAD);
        due("tape stays", x.count(1), 2);
        due("its fault", x.text(11), -101);
    }

    static void promise03_formulas0To11TakeTexts() {
        FormulaVisitors x = new FormulaVisitors();
        for (int f = 0; f < 12; f++) due("text " + f, write(x, f, "[" + f + "]"), 2);
        for (int f = 0; f < 12; f++) due("worth " + f, x.worth(f), f * f);
    }

    static void promise03_theTapeIsEmptyAfterAText() {
        FormulaVisitors x = new FormulaVisitors();
        write(x, 0, "a");
        due("tape", x.count(1), 0);
        due("text of nothing", x.text(1), -100);
        due("the first one stays", x.worth(0), 0);
    }

    static void promise03_theTapeIsEmptyAfterAFault() {
        FormulaVisitors x = new FormulaVisitors();
        due("fault", write(x, 0, "a+b)"), -103);
        due("tape", x.count(1), 0);
        due("text of nothing", x.text(0), -100);
        due("feed", x.feed(1, 'a', 0, 0, 0, 0), 1);
        due("text", x.text(0), 1);
    }

    static void promise03_aFaultLeavesTheFormulaAsItWas() {
        FormulaVisitors x = of("a*7");
        due("fault", write(x, 0, "b+"), -102);
        dueText("as it was", printed(x, 0), "a*7");
        due("fault", write(x, 1, "b+"), -102);
        due("EMPTY still", x.worth(1), LONG_STATE);
        due("formulas", x.count(0), 1);
    }

    static void promise03_anEmptyTextHasItsFaultAtItsSize() {
        dueFault("", 0);
        dueFault(" ", 1);
        dueFault("\n \n", 3);
        dueFault(" ".repeat(120), 120);
    }

    static void promise03_aTextThatEndsTooEarlyHasItsFaultAtItsSize() {
        String[] early = {"-", "(", "[", "a+", "a-", "a*", "a^", "a?", "a?b", "a?b:", "(a", "[a", "(a?b", "-(", "a*-", "(a?b:c", "[[a]"};
        for (String s : early) {
            dueFault(s, s.length());
            dueFault(s + " \n", s.length() + 2);
        }
    }

    static void promise03_aTextOf120BytesIsReadToItsEnd() {
        String sums = "a" + "+a".repeat(59);
        dueNodes(sums + " ", 119);
        dueNodes("-" + sums, 120);
        dueFault(sums + "+", 120);
        dueFault(sums + ")", 119);
        dueFault("(" + sums, 120);
    }

    static void promise03_theMostNodesOfATextAreKept() {
        dueNodes("-a" + "-a".repeat(59), 179);
    }

    static void promise03_allFormulasMayBeOfLongTexts() {
        FormulaVisitors x = new FormulaVisitors();
        for (int f = 0; f < 12; f++) due("text " + f, write(x, f, "a" + "-a".repeat(59)), 178);
        due("nodes of all", x.count(2), 12 * 178);
    }

    static void promise03_eachByteAlone() {
        for (int v = 0; v < 256; v++) {
            FormulaVisitors x = new FormulaVisitors();
            x.feed(1, v, 0, 0, 0, 0);
            boolean whole = v >= 'a' && v <= 'h' || v >= '0' && v <= '9';
            boolean early = v == '(' || v == '[' || v == '-' || v == 32 || v == 10;
            due("text of byte " + v, x.text(0), whole ? 1 : early ? -101 : -100);
        }
    }

    static void promise03_eachByteBehindAName() {
        for (int v = 0; v < 256; v++) {
            FormulaVisitors x = new FormulaVisitors();
            x.feed(2, 'a', v, 0, 0, 0);
            int want = v >= 'a' && v <= 'z' ? -100 : v == 32 || v == 10 ? 1 : v != 0 && "+-*^?".indexOf(v) >= 0 ? -102 : -101;
            due("text of a and byte " + v, x.text(0), want);
        }
    }

    static void promise03_onlyBlanks32And10StandBetween() {
        dueNodes(" \n( \na\n +\n\n-  b ) ^\n3 \n", 5);
        for (char v : new char[] {0, 9, 11, 12, 13, 31, 33, 160}) {
            dueFault("a" + v + "+b", 1);
            dueFault(v + "a", 0);
        }
    }

    static void promise03_aBlankEndsATokenAndJoinsNone() {
        dueFault("a b", 2);
        dueFault("1 2", 2);
        dueFault("1\n2", 2);
        dueFault("a^1 0", 4);
        dueFault("1 a", 2);
    }

    static void promise03_wordsAreAsLongAsTheyCanBe() {
        dueFault("ab", 0);
        dueFault("hh", 0);
        dueFault("b+abcdefgh", 2);
        dueFault("a?bc:d", 2);
        dueFault("aB", 1);
        dueFault("1a", 1);
        dueFault("a1", 1);
    }

    static void promise03_namesAreAToH() {
        FormulaVisitors x = new FormulaVisitors();
        for (char c = 'a'; c <= 'h'; c++) {
            due("text " + c, write(x, 0, "" + c), 1);
            due("name " + c, x.node(0, 0, 2), c - 'a');
        }
        for (char c = 'i'; c <= 'z'; c++) dueFault("7+" + c, 2);
    }

    static void promise03_numbersOfFourDigitsAreTheLongest() {
        String[] good = {"0", "9", "0000", "0007", "9999", "1000"};
        for (String s : good) dueWorth(s, Integer.parseInt(s));
        dueFault("10000", 0);
        dueFault("00000", 0);
        dueFault("a*99999", 2);
        dueFault("4294967297", 0);
        dueFault("1".repeat(120), 0);
        dueFault("(18446744073709551617)", 1);
    }

    static void promise03_powersAreOf0To9() {
        for (int k = 0; k < 10; k++) {
            FormulaVisitors x = of("a^" + k);
            due("digit", x.node(0, 0, 3), k);
        }
        dueFault("a^10", 2);
        dueFault("a^11", 2);
        dueFault("a^9999", 2);
        dueFault("a*b^ 10", 5);
    }

    static void promise03_numbersBehindAPowersSignAreNumbersToo() {
        FormulaVisitors x = of("a^0009", "a^0000");
        due("0009", x.node(0, 0, 3), 9);
        due("0000", x.node(1, 0, 3), 0);
        dueFault("a^0010", 2);
        dueFault("a^00009", 2);
        dueFault("a^00000", 2);
        dueFault("a^4294967297", 2);
    }

    static void promise03_aPowerNeedsANumber() {
        for (String s : new String[] {"a", "-1", "(1)", "[1]", "^2", "*", ")", "?"}) dueFault("a^" + s, 2);
        dueFault("a^ab", 2);
        dueFault("a^\u0001", 2);
    }

    static void promise03_repeatedSignsHaveNoEnd() {
        FormulaVisitors x = of("a" + "+a".repeat(59), "a" + "*a".repeat(59), "2" + "^1".repeat(59));
        due("sums", x.node(0, 0, 4), 119);
        due("products", x.node(1, 0, 4), 119);
        due("powers", x.node(2, 0, 4), 60);
        due("depth of sums", x.measure(0, 1), 60);
        due("depth of products", x.measure(1, 1), 60);
        due("the last sum's second", x.node(0, 118, 0), 1);
        due("the last sum's first", x.node(0, 1, 4), 117);
    }

    static void promise03_aChoiceHasOnePick() {
        dueNodes("a?b:c", 4);
        dueFault("a?b:c?d:e", 5);
        dueFault("a?b?c:d:e", 3);
        dueFault("a?b:c:d", 5);
        dueFault("a:b", 1);
        dueNodes("(a?b:c)?(a?b:c):(a?b:c)", 13);
        dueNodes("[a?b:c]", 5);
    }

    static void promise03_behindAChoiceTheTextEnds() {
        dueFault("a)", 1);
        dueFault("a]", 1);
        dueFault("(a))", 3);
        dueFault("a(b)", 1);
        dueFault("a[b]", 1);
        dueFault("(a)b", 3);
        dueFault("[a]1", 3);
        dueFault("a :", 2);
    }

    static void promise03_bracketsAreClosedByTheirOwn() {
        dueFault("(a]", 2);
        dueFault("[a)", 2);
        dueFault("([a)]", 3);
        dueFault("()", 1);
        dueFault("[]", 1);
        dueFault("(a:b)", 2);
    }

    static void promise03_fiveCanBeOpen() {
        dueNodes("(((((a)))))", 1);
        dueNodes("[[[[[a]]]]]", 6);
        dueNodes("-----a", 6);
        dueNodes("-(-[(a)])", 4);
        dueNodes("[-(-[a])]", 5);
    }

    static void promise03_aSixthBracketOrSignIsAFault() {
        String[] five = {"(((((", "[[[[[", "-----", "-(-[(", "([-[-", "( [ - ( ["};
        for (String s : five) {
            for (String sixth : new String[] {"(a)", "[a]", "-a", "(", "[", "-", "-)", "(9", "-ab"}) {
                dueFault(s + sixth, s.length());
            }
            dueFault(s, s.length());
            dueFault(s + ")", s.length());
        }
        dueFault("(((((a+-b)))))", 7);
        dueFault("(((((a*(b))))))", 7);
        dueFault("(((((a?[b]:c)))))", 7);
    }

    static void promise03_aSignBetweenIsNotOpen() {
        dueNodes("(((((a-b-c)))))", 7);
        dueNodes("[[[[[a-b]]]]]", 9);
        dueFault("(((((a--b)))))", 7);
    }

    static void promise03_whatIsClosedIsNotOpen() {
        dueNodes("(((((a)))))*(((((a)))))+(((((a)))))", 5);
        dueNodes("[[[[[a]*[a]]]]]", 9);
        dueNodes("((((-a+-b*[c]))))", 8);
        dueFault("((((a)+(((a)))))", 9);
        dueFault("(((((a))))*(((((a))))", 15);
    }

    static void promise03_aSignEndsWithItsOne() {
        dueNodes("-----a*-----a+-----a^2", 21);
        dueNodes("((((-a))))*-----b", 9);
        dueNodes("((((-a?-b:-c))))", 7);
        dueFault("((((-a*(-b)))))", 8);
    }

    static void promise03_ofTwoFaultsTheFirstIsTold() {
        dueFault("a b 12345", 2);
        dueFault("12345 )", 0);
        dueFault("((((((12345", 5);
        dueFault("(((((12345", 5);
        dueFault("a^10^^", 2);
        dueFault("a)ab", 1);
        dueFault("i*(", 0);
    }

    // ---- promise 4: let

    static void promise04_noSuchNameIsBad() {
        for (int name : NO_NAME) dueRefused("let " + name, BAD, x -> x.let(name, 3));
    }

    static void promise04_allEightNamesHaveTheirOwnValue() {
        FormulaVisitors x = new FormulaVisitors();
        for (int i = 0; i < 8; i++) due("let " + i, x.let(i, 100 + i), 0);
        for (int i = 0; i < 8; i++) due("let " + i + " again", x.let(i, 0), 100 + i);
    }

    static void promise04_theGreatestAndTheLeastIntAreValues() {
        FormulaVisitors x = of("a", "h+h", "-a");
        due("first", x.let(0, MIN), 0);
        due("let", x.let(7, MAX), 0);
        due("worth", x.worth(0), MIN);
        due("a long, that doesn't wrap", x.worth(1), 2L * MAX);
        due("a long, that doesn't wrap", x.worth(2), -(long) MIN);
        due("what it was", x.let(0, 1), MIN);
        due("what it was", x.let(7, 1), MAX);
    }

    // ---- promise 5: turn

    static void promise05_noSuchFormulaIsBad() {
        for (int what : new int[] {0, 1, 10, 17, 20, 27, 30}) {
            for (int f : NO_FORMULA) dueRefused("turn " + f + ", " + what, BAD, x -> x.turn(f, what, 1));
        }
    }

    static void promise05_noSuchTurnIsBad() {
        for (int what : new int[] {-1, 2, 9, 18, 19, 28, 29, 31, MAX, MIN}) {
            dueRefused("turn " + what, BAD, x -> x.turn(0, what, 1));
        }
    }

    static void promise05_noSuchByIsBadWhereItMatters() {
        for (int what : new int[] {20, 27, 30}) {
            for (int by : NO_FORMULA) dueRefused("turn " + what + " by " + by, BAD, x -> x.turn(0, what, by));
        }
    }

    static void promise05_byDoesNotMatterElsewhere() {
        for (int by : new int[] {-1, 12, MAX, MIN, 11}) {
            FormulaVisitors x = of("a*a+0", "a*a+0", "b", "c");
            due("folded", x.turn(0, 1, by), 3);
            due("derived by a", x.turn(1, 10, by), 9);
            due("derived by h", x.turn(2, 17, by), 1);
            due("emptied", x.turn(3, 0, by), 0);
        }
    }

    static void promise05_anEmptyFormulaIsStateButFor0And30() {
        for (int what : new int[] {1, 10, 17, 20, 27}) dueRefused("turn 2, " + what, STATE, x -> x.turn(2, what, 1));
        FormulaVisitors x = of("a+b");
        due("emptied", x.turn(11, 0, 11), 0);
        due("from another", x.turn(11, 30, 0), 3);
    }

    static void promise05_anEmptyByIsState() {
        for (int what : new int[] {20, 22, 27, 30}) {
            dueRefused("turn " + what + " by 2", STATE, x -> x.turn(0, what, 2));
            dueRefused("turn " + what + " by 11", STATE, x -> x.turn(0, what, 11));
            dueRefused("turn 2, " + what + " by 2", STATE, x -> x.turn(2, what, 2));
        }
    }

    static void promise05_badIsNamedAheadOfState() {
        dueRefused("an EMPTY one, no such turn", BAD, x -> x.turn(2, 2, 0));
        dueRefused("an EMPTY one, no such by", BAD, x -> x.turn(2, 20, 12));
        dueRefused("an EMPTY by, no such formula", BAD, x -> x.turn(12, 30, 2));
        dueRefused("an EMPTY by, no such turn", BAD, x -> x.turn(0, 28, 2));
    }

    static void promise05_anEmptiedFormulaHasNoNodes() {
        FormulaVisitors x = of("a+b", "c");
        due("emptied", x.turn(0, 0, 0), 0);
        due("worth", x.worth(0), LONG_STATE);
        due("nodes of all", x.count(2), 1);
        due("emptied again", x.turn(0, 0, 0), 0);
    }

    private static void dueFolded(String text, long want) {
        FormulaVisitors x = of(text);
        long worth = x.worth(0);
        due("nodes of " + text + " folded", x.turn(0, 1, 0), 1);
        due("kind of " + text + " folded", x.node(0, 0, 0), 0);
        due("worth of " + text, worth, want);
        due("worth of " + text + " folded", x.worth(0), want);
    }

    static void promise05_foldedSumsWrap() {
        dueFolded(GREATEST + "+1", Long.MIN_VALUE);
        dueFolded(LEAST + "-1", Long.MAX_VALUE);
        dueFolded(LEAST + "+" + LEAST, 0);
    }

    static void promise05_foldedProductsWrap() {
        dueFolded(GREATEST + "*2", -2);
        dueFolded(LEAST + "*(0-1)", Long.MIN_VALUE);
        dueFolded("4096^5*(4096^5)", 0);
    }

    static void promise05_foldedPowersAndSquaresWrap() {
        dueFolded("256^8", 0);
        dueFolded("128^9", Long.MIN_VALUE);
        dueFolded("9999^9", Oracle.power(9999, 9));
        dueFolded("[4096^5*4]", 0);
        dueFolded("[" + GREATEST + "]", 1);
        dueFolded(GREATEST + "^9", Long.MAX_VALUE);
    }

    static void promise05_theLeastNumberNegatedIsItself() {
        dueFolded("-(" + LEAST + ")", Long.MIN_VALUE);
        dueFolded("--(" + LEAST + ")", Long.MIN_VALUE);
    }

    static void promise05_aPowerOf0OrOf1IsFoldedFirst() {
        dueFolded("0^0", 1);
        dueFolded("5^0", 1);
        dueTurned("(a*b)^0", 1, "1");
        dueTurned("(a*b)^1", 1, "a*b");
        dueTurned("a^2", 1, "a^2");
        dueFolded("0^9", 0);
    }

    static void promise05_only0And1AreFoldedAway() {
        dueTurned("2*a", 1, "2*a");
        dueTurned("a*-1", 1, "a*-1");
        dueTurned("-1*a", 1, "-1*a");
        dueTurned("1+a", 1, "1+a");
        dueTurned("a+-1", 1, "a+-1");
        dueTurned("1*1", 1, "1");
        dueTurned("0*1", 1, "0");
        dueTurned("1*0", 1, "0");
        dueTurned("0+0", 1, "0");
        dueTurned("a*(256^8)", 1, "0");
        dueTurned("a+2^9^9", 1, "a");
        dueTurned("a*(" + LEAST + "*2)", 1, "0");
        FormulaVisitors x = of("a*(2^8^4)", "a+2^8^4", "a*(2^8^4+1)", "(2^8^4)*a", "2^8^4+a", "(2^8^4+1)*a");
        for (int i = 0; i < 6; i++) due("a number's lowest 32 bits alone aren't it, " + i, x.turn(i, 1, 0), 3);
    }

    static void promise05_aFoldedPickLooksAtAllOfItsNumber() {
        dueTurned("2^8^4?a:b", 1, "a");
        dueTurned("0-1?a:b", 1, "a");
        dueTurned("256^8?a:b", 1, "b");
        dueTurned("0?a:b", 1, "b");
        dueTurned("c?1:1", 1, "c?1:1");
    }

    static void promise05_aDerivedPowerOf0And1And9() {
        dueTurned("a^0", 10, "0");
        dueTurned("a^1", 10, "1*a^0*1");
        dueTurned("a^9", 10, "9*a^8*1");
    }

    static void promise05_aDerivedPickKeepsItsWhich() {
        dueTurned("a?a:a", 10, "a?1:1");
        dueTurned("a^2?b:a", 10, "a^2?0:1");
    }

    static void promise05_derivedOf200NodesFitsOf201IsFull() {
        String text = "[[[[a]]]]+[[[a]]]+[[a]]+a^2+----a";
        FormulaVisitors x = of(text, text + "-a", "b", text.replace("+----a", "-----a"));
        due("200", x.turn(0, 10, 0), 200);
        due("202", x.turn(1, 10, 0), FULL);
        dueText("as it was", printed(x, 1), "[[[[a]]]]+[[[a]]]+[[a]]+a^2----a-a");
        x.turn(3, 0, 0);
        write(x, 3, text.replace("+----a", "+-----a"));
        due("201", x.turn(3, 10, 0), FULL);
        due("as it was", x.measure(3, 0), write(x, 4, text.replace("+----a", "+-----a")));
        due("alike", x.alike(3, 4, 0), 1);
        due("200 derived", x.turn(0, 10, 0), FULL);
        due("as it was", x.measure(0, 0), 200);
    }

    static void promise05_derivedFarAbove200IsFull() {
        FormulaVisitors x = of("a", "[[[[[a]]]]]");
        for (int i = 0; i < 39; i++) x.turn(0, 20, 1);
        due("squares", x.measure(0, 0), 196);
        for (int name = 10; name < 18; name++) due("derived", x.turn(0, name, 0), FULL);
        due("as it was", x.measure(0, 0), 196);
    }

    static void promise05_replacedOf200NodesFitsOf201IsFull() {
        FormulaVisitors x = withNodes(196);
        write(x, 3, "-----a");
        write(x, 4, "----a");
        due("201", x.turn(0, 20, 3), FULL);
        due("as it was", x.measure(0, 0), 196);
        due("200", x.turn(0, 20, 4), 200);
        due("201", x.turn(0, 20, 2), FULL);
        due("200 still", x.measure(0, 0), 200);
        due("a name that isn't there", x.turn(0, 21, 0), 200);
        due("by 200 nodes", x.turn(3, 20, 0), FULL);
        due("200 nodes for a name", x.turn(4, 30, 2) + x.turn(4, 20, 2), 2 + 3);
        write(x, 5, "a");
        due("200 nodes for a name", x.turn(5, 20, 0), 200);
        due("from another", x.turn(6, 30, 0), 200);
        due("alike", x.alike(5, 6, 0), 1);
    }

    static void promise05_replacedFarAbove200IsFull() {
        FormulaVisitors x = of("a" + "+a".repeat(59));
        due("60 times 119", x.turn(0, 20, 0), FULL);
        due("as it was", x.measure(0, 0), 119);
        due("another name", x.turn(0, 27, 0), 119);
    }

    static void promise05_turnsOf200NodesMayBeMany() {
        FormulaVisitors x = withNodes(200);
        write(x, 3, "b");
        for (int i = 0; i < 40; i++) due("replaced", x.turn(0, 20, 3), 200);
        for (int i = 0; i < 40; i++) due("derived", x.turn(0, 10 + i % 8, 0), 200);
        FormulaVisitors y = of("a", "[[[[[a]]]]]");
        for (int i = 0; i < 39; i++) y.turn(0, 20, 1);
        for (int i = 0; i < 40; i++) due("folded", y.turn(0, 1, 0), 196);
    }

    static void promise05_replacedByItselfIsReplacedOnce() {
        FormulaVisitors x = of("a*a");
        due("nodes", x.turn(0, 20, 0), 7);
        dueText("once", printed(x, 0), "a*a*(a*a)");
    }

    static void promise05_fromItselfIsAsItWas() {
        FormulaVisitors x = of("a*a+7");
        due("nodes", x.turn(0, 30, 0), 5);
        dueText("as it was", printed(x, 0), "a*a+7");
    }

    // ---- promise 6: node

    static void promise06_noSuchFormulaIsBad() {
        for (int f : NO_FORMULA) dueRefused("node of " + f, BAD, x -> x.node(f, 0, 0));
    }

    static void promise06_noSuchWhatIsBad() {
        for (int what : new int[] {-1, 5, MAX, MIN}) dueRefused("what " + what, BAD, x -> x.node(0, 0, what));
    }

    static void promise06_anEmptyFormulaIsState() {
        for (int what = 0; what < 5; what++) {
            int w = what;
            dueRefused("EMPTY, what " + what, STATE, x -> x.node(2, 0, w));
        }
    }

    static void promise06_aPlaceOutsideIsMinus12() {
        for (int k : new int[] {-1, 5, MAX, MIN}) {
            for (int what = 0; what < 5; what++) {
                int w = what;
                dueRefused("node " + k + ", what " + what, OUTSIDE, x -> x.node(0, k, w));
            }
        }
    }

    static void promise06_theFirstAndTheLastNode() {
        FormulaVisitors x = withNodes(200);
        due("kind of the first", x.node(0, 0, 0), 2);
        due("nodes of the first", x.node(0, 0, 4), 200);
        due("kind of the last", x.node(0, 199, 0), 1);
        due("nodes of the last", x.node(0, 199, 4), 1);
        due("behind it", x.node(0, 200, 0), OUTSIDE);
    }

    static void promise06_aNumbersLowest32Bits() {
        FormulaVisitors x = foldedOf("2^8^4", "2^8^4-1", "2^9^3*16", LEAST, GREATEST, "2^8^4+7", "0-1");
        int[] want = {0, -1, MIN, 0, -1, 7, -1};
        for (int i = 0; i < want.length; i++) due("number of " + i, x.node(i, 0, 1), want[i]);
    }

    static void promise06_anotherKindIsNone() {
        FormulaVisitors x = of("7", "a", "-a", "a+b", "a*b", "a^2", "a?b:c", "[a]");
        for (int kind = 0; kind < 8; kind++) {
            due("kind", x.node(kind, 0, 0), kind);
            due("number of kind " + kind, x.node(kind, 0, 1), kind == 0 ? 7 : NONE);
            due("name of kind " + kind, x.node(kind, 0, 2), kind == 1 ? 0 : NONE);
            due("digit of kind " + kind, x.node(kind, 0, 3), kind == 5 ? 2 : NONE);
        }
    }

    static void promise06_badIsNamedAheadOfStateAndMinus12() {
        dueRefused("what 5, EMPTY", BAD, x -> x.node(2, 0, 5));
        dueRefused("what 5, outside", BAD, x -> x.node(0, 5, 5));
        dueRefused("formula 12, outside", BAD, x -> x.node(12, -1, 0));
    }

    static void promise06_stateIsNamedAheadOfMinus12() {
        dueRefused("EMPTY, outside", STATE, x -> x.node(2, -1, 0));
        dueRefused("EMPTY, outside", STATE, x -> x.node(11, 200, 4));
    }

    // ---- promise 7: taken

    static void promise07_noSuchFormulaIsBad() {
        for (int f : NO_FORMULA) dueRefused("taken of " + f, BAD, x -> x.taken(f, 0, 3));
    }

    static void promise07_noSuchKindIsBad() {
        for (int kind : new int[] {-1, 8, MAX, MIN}) dueRefused("kind " + kind, BAD, x -> x.taken(0, 0, kind));
    }

    static void promise07_anEmptyFormulaIsState() {
        dueRefused("EMPTY", STATE, x -> x.taken(2, 0, 0));
    }

    static void promise07_aPlaceOutsideIsMinus12() {
        for (int k : new int[] {-1, 5, MAX, MIN}) dueRefused("taken " + k, OUTSIDE, x -> x.taken(0, k, 0));
    }

    static void promise07_aThingOfAnotherKindIsMinus13() {
        FormulaVisitors x = of("7", "a", "-a", "a+b", "a*b", "a^2", "a?b:c", "[a]");
        int[] nodes = {1, 1, 2, 3, 3, 2, 4, 2};
        for (int f = 0; f < 8; f++) {
            for (int kind = 0; kind < 8; kind++) {
                int want = kind == f ? nodes[f] : f == 7 && kind == 4 ? 3 : OTHER_SORT;
                due("kind " + f + " taken for " + kind, x.taken(f, 0, kind), want);
            }
        }
        dueRefused("a SUM taken for a NUMBER", OTHER_SORT, y -> y.taken(0, 0, 0));
        dueRefused("a PRODUCT taken for a SQUARE", OTHER_SORT, y -> y.taken(0, 1, 7));
    }

    static void promise07_aSquareOf200NodesStandsForAProductOf399() {
        FormulaVisitors x = withNodes(199);
        write(x, 3, "[b]");
        due("nodes", x.turn(3, 21, 0), 200);
        due("taken for a SQUARE", x.taken(3, 0, 7), 200);
        due("taken for a PRODUCT", x.taken(3, 0, 4), 399);
        due("it is as it was", x.count(2), 199 + 6 + 2 + 200);
    }

    static void promise07_badIsNamedAheadOfStateAndMinus12() {
        dueRefused("kind 8, EMPTY", BAD, x -> x.taken(2, 0, 8));
        dueRefused("kind 8, outside", BAD, x -> x.taken(0, 5, 8));
        dueRefused("formula 12, outside", BAD, x -> x.taken(12, -1, 0));
    }

    static void promise07_stateIsNamedAheadOfMinus12() {
        dueRefused("EMPTY, outside", STATE, x -> x.taken(2, -1, 0));
    }

    static void promise07_minus12IsNamedAheadOfMinus13() {
        for (int kind = 0; kind < 8; kind++) {
            int k = kind;
            dueRefused("outside, kind " + kind, OUTSIDE, x -> x.taken(0, 5, k));
        }
    }

    public static void main(String[] args) {
        runAll(EdgesOfFormulasTest.class);
    }
}
