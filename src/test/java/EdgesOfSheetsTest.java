/** Promises 20 to 27: each sentence of the document that names a boundary, by a test of its own. */
public final class EdgesOfSheetsTest extends Checks {
    /** Item i of a sheet (0 .. 2) is v; it is told on sheet 3, by formula 11, which is the name g. */
    private static void dueItem(FormulaVisitors x, int sheet, int i, int v) {
        if (x.node(11, 0, 2) != 6) write(x, 11, "g");
        x.sheet(3, 0, 1);
        if (x.copy(sheet, i, 3, 0, 1) != 1) {
            x.sheet(3, 1, 1);
            due("item " + i + " is there", x.copy(sheet, i, 3, 0, 1), 1);
        }
        x.let(6, v);
        due("item " + i + " is " + v, x.tells(3, 11, 0, 0), NONE);
        x.let(6, v ^ 65536);
        due("item " + i + " isn't " + (v ^ 65536), x.tells(3, 11, 0, 0), 0);
    }

    private static void dueItems(FormulaVisitors x, int sheet, int... all) {
        due("size of sheet " + sheet, sizeOf(x, sheet), all.length);
        for (int i = 0; i < all.length; i++) dueItem(x, sheet, i, all[i]);
    }

    // ---- promise 20: tells

    static void promise20_noSuchSheetIsBad() {
        for (int sheet : NO_SHEET) dueRefused("tells, sheet " + sheet, BAD, x -> x.tells(sheet, 0, 0, 0));
    }

    static void promise20_noSuchFormulaIsBad() {
        for (int what : new int[] {0, 1, 2, 10, 100}) {
            for (int f : NO_FORMULA) dueRefused("tells of " + f + ", what " + what, BAD, x -> x.tells(0, f, 0, what));
        }
    }

    static void promise20_noSuchNameIsBad() {
        for (int what : new int[] {0, 1, 2, 10, 100}) {
            for (int name : NO_NAME) dueRefused("tells by " + name + ", what " + what, BAD, x -> x.tells(0, 0, name, what));
        }
    }

    static void promise20_noSuchWhatIsBad() {
        for (int what : new int[] {-1, 3, 9, 51, 52, 99, 141, 142, MAX, MIN, MAX - 1, MIN + 10}) {
            dueRefused("tells, what " + what, BAD, x -> x.tells(0, 0, 0, what));
        }
    }

    private static FormulaVisitors with42Numbers() {
        FormulaVisitors x = of("1" + "+1".repeat(41));
        x.sheet(0, 1, 1);
        x.cell(0, 0, 42);
        return x;
    }

    static void promise20_numbersAreAskedFrom0To40() {
        FormulaVisitors x = with42Numbers();
        for (int k = 0; k <= 40; k++) {
            due("number " + k, x.tells(0, 0, 0, 10 + k), 1);
            due("the least of number " + k, x.tells(0, 0, 0, 100 + k), 1);
        }
        due("number 41", x.tells(0, 0, 0, 51), BAD);
        due("the least of number 41", x.tells(0, 0, 0, 141), BAD);
        due("number -1", x.tells(0, 0, 0, 9), BAD);
        due("the least of number -1", x.tells(0, 0, 0, 99), BAD);
    }

    static void promise20_noSuchNumberIsBad() {
        dueRefused("number 2 of two", BAD, x -> x.tells(0, 0, 0, 12));
        dueRefused("the least of number 2 of two", BAD, x -> x.tells(0, 0, 0, 102));
        dueRefused("number 40 of two", BAD, x -> x.tells(0, 0, 0, 50));
        dueRefused("number 0 of none", BAD, x -> x.tells(0, 1, 0, 10));
        dueRefused("the least of number 0 of none", BAD, x -> x.tells(0, 1, 0, 100));
        due("number 1 of two", house().tells(0, 0, 0, 11), 1);
    }

    static void promise20_anEmptyFormulaIsState() {
        for (int what = 0; what < 3; what++) {
            int w = what;
            dueRefused("tells, EMPTY, what " + what, STATE, x -> x.tells(0, 2, 0, w));
        }
    }

    static void promise20_aMissingSheetIsMinus11() {
        for (int what : new int[] {0, 1, 2, 10, 100}) {
            dueRefused("tells, missing, what " + what, MISSING, x -> x.tells(3, 0, 0, what));
        }
    }

    static void promise20_moreThan20ToldAreBad() {
        for (int what : new int[] {0, 1, 2, 10, 100}) dueRefused("tells 21, what " + what, BAD, x -> x.tells(2, 0, 0, what));
        FormulaVisitors x = of("a*0");
        for (int n = 0; n <= 40; n++) {
            x.sheet(0, n & 1, n);
            due("tells " + n, x.tells(0, 0, 0, 0), n <= 20 ? NONE : BAD);
        }
    }

    static void promise20_badIsNamedAheadOfState() {
        dueRefused("EMPTY, sheet 4", BAD, x -> x.tells(4, 2, 0, 0));
        dueRefused("EMPTY, name 8", BAD, x -> x.tells(0, 2, 8, 0));
        dueRefused("EMPTY, what 3", BAD, x -> x.tells(0, 2, 0, 3));
        dueRefused("EMPTY, what 51", BAD, x -> x.tells(0, 2, 0, 51));
        dueRefused("EMPTY, no such number", BAD, x -> x.tells(0, 2, 0, 10));
        dueRefused("EMPTY, no such number", BAD, x -> x.tells(0, 2, 0, 140));
    }

    static void promise20_badIsNamedAheadOfMinus11() {
        dueRefused("missing, formula 12", BAD, x -> x.tells(3, 12, 0, 0));
        dueRefused("missing, name 8", BAD, x -> x.tells(3, 0, 8, 0));
        dueRefused("missing, what 3", BAD, x -> x.tells(3, 0, 0, 3));
        dueRefused("missing, no such number", BAD, x -> x.tells(3, 0, 0, 12));
    }

    static void promise20_stateIsNamedAheadOfMinus11() {
        for (int what = 0; what < 3; what++) {
            int w = what;
            dueRefused("EMPTY, missing, what " + what, STATE, x -> x.tells(3, 2, 0, w));
        }
    }

    static void promise20_stateIsNamedAheadOfMoreThan20() {
        for (int what = 0; what < 3; what++) {
            int w = what;
            dueRefused("EMPTY, 21, what " + what, STATE, x -> x.tells(2, 2, 0, w));
        }
    }

    static void promise20_whereNothingIsToldAllIsSo() {
        FormulaVisitors x = of("a*3+2", "b");
        for (int sort = 0; sort < 2; sort++) {
            x.sheet(0, sort, 0);
            due("the first that is otherwise", x.tells(0, 0, 0, 0), NONE);
            due("formulas, but no EMPTY ones", x.tells(0, 0, 0, 1), 3);
            due("names", x.tells(0, 0, 0, 2), 255);
            due("numbers", x.tells(0, 0, 0, 11), 100);
            due("the least number", x.tells(0, 0, 0, 101), 0);
        }
    }

    static void promise20_theFirstAndTheLastThatIsOtherwise() {
        FormulaVisitors x = of("a*3+2");
        x.film(0, 0, 0, 20);
        due("none", x.tells(0, 0, 0, 0), NONE);
        x.cell(0, 19, 0);
        due("the last", x.tells(0, 0, 0, 0), 19);
        x.cell(0, 0, 0);
        due("the first", x.tells(0, 0, 0, 0), 0);
    }

    static void promise20_shortsTellTheirSign() {
        FormulaVisitors x = of("b-a", "-b+2*a");
        x.sheet(0, 0, 2);
        x.cell(0, 0, 32767);
        x.cell(0, 1, 32766);
        x.let(1, 32767);
        due("greatest short", x.tells(0, 0, 0, 0), NONE);
        x.cell(0, 0, 32768);
        x.cell(0, 1, 32767);
        x.let(1, 32768);
        due("32768 is no short", x.tells(0, 0, 0, 0), 0);
        x.let(1, -32768);
        due("the least short", x.tells(0, 0, 0, 0), 1);
    }

    static void promise20_worthsLowest32BitsAreTold() {
        FormulaVisitors x = of("a*(2^8^4)+b", "2^8^4*8-b", "a-1+2^8^4");
        x.sheet(0, 1, 3);
        due("of longs", x.tells(0, 0, 0, 0), NONE);
        x.sheet(0, 1, 1);
        x.cell(0, 0, MIN);
        x.let(1, MIN);
        due("the least int", x.tells(0, 0, 0, 0), NONE);
        due("the least int of a greater long", x.tells(0, 1, 0, 0), NONE);
        x.sheet(0, 1, 2);
        x.cell(0, 0, -1);
        due("-1 of a long that isn't below 0", x.tells(0, 2, 0, 0), NONE);
    }

    static void promise20_formulasAre0To11ButNoEmptyOnes() {
        FormulaVisitors x = of("a", "a+0", "b");
        write(x, 11, "a*1");
        x.film(0, 0, 0, 20);
        due("formulas", x.tells(0, 2, 0, 1), 1 + 2 + (1 << 11));
        due("formulas by b", x.tells(0, 2, 1, 1), 4);
        x.sheet(0, 1, 1);
        due("formulas, of one 0", x.tells(0, 2, 0, 1), 7 + (1 << 11));
        for (int f = 3; f < 11; f++) x.turn(f, 30, 2);
        due("all", x.tells(0, 2, 0, 1), (1 << 12) - 1);
    }

    static void promise20_namesAre0To7() {
        FormulaVisitors x = of("a+h", "a+b+c+d+e+f+g+h", "7");
        x.film(0, 0, 0, 20);
        due("a, h", x.tells(0, 0, 3, 2), 1 + 128);
        due("all", x.tells(0, 1, 3, 2), 255);
        due("none", x.tells(0, 2, 3, 2), 0);
        x.let(7, 1);
        due("a were 0 and h 1", x.tells(0, 0, 3, 2), 128);
        x.sheet(0, 1, 1);
        x.cell(0, 0, 7);
        due("whichever", x.tells(0, 2, 3, 2), 255);
    }

    static void promise20_numbers0To99ArePutInPlace() {
        FormulaVisitors x = of("a*0+5", "a+50*50", "7");
        for (int v : new int[] {-1, 0, 1, 99, 100, MAX, MIN}) {
            boolean tried = v >= 0 && v <= 99;
            x.sheet(0, 1, 1);
            x.cell(0, 0, v);
            due("number that makes " + v, x.tells(0, 0, 0, 11), tried ? 1 : 0);
            due("the least that makes " + v, x.tells(0, 0, 0, 101), tried ? v : NONE);
            due("the only number", x.tells(0, 2, 5, 100), tried ? v : NONE);
        }
    }

    static void promise20_aNumberThatDoesntMatterIsSoBy100Or0() {
        FormulaVisitors x = of("0*5+a", "a-a?3:4");
        x.film(0, 0, 0, 20);
        due("all", x.tells(0, 0, 0, 11), 100);
        due("the least", x.tells(0, 0, 0, 101), 0);
        due("the one that does", x.tells(0, 0, 0, 10), 1);
        x.film(0, 1, 0, 20);
        due("all, of one that isn't asked", x.tells(0, 1, 0, 10), 100);
        due("the least of it", x.tells(0, 1, 0, 100), 0);
        due("the one that is asked", x.tells(0, 1, 0, 101), 4);
        x.cell(0, 7, 5);
        due("none", x.tells(0, 1, 0, 10), 0);
        due("no least", x.tells(0, 1, 0, 100), NONE);
    }

    static void promise20_someOf0To99() {
        FormulaVisitors x = of("50?a:a+1", "[50-7]");
        x.film(0, 0, 0, 20);
        due("all but 0", x.tells(0, 0, 0, 10), 99);
        due("the least is 1", x.tells(0, 0, 0, 100), 1);
        x.sheet(0, 1, 1);
        x.cell(0, 0, 25);
        due("two", x.tells(0, 1, 0, 10), 2);
        due("the lesser", x.tells(0, 1, 0, 100), 2);
        due("two", x.tells(0, 1, 0, 11), 2);
        due("the lesser", x.tells(0, 1, 0, 101), 45);
    }

    static void promise20_longNumbersArePutInPlaceToo() {
        FormulaVisitors x = of("a+2^8^4", "-7+a");
        x.turn(0, 1, 0);
        x.turn(1, 1, 0);
        x.film(0, 0, 0, 20);
        due("one makes it so", x.tells(0, 0, 0, 10), 1);
        due("0", x.tells(0, 0, 0, 100), 0);
        x.film(1, 1, 0, 20);
        due("none makes -7", x.tells(1, 1, 0, 10), 0);
        due("worth as it was", x.worth(0), 1L << 32);
        due("worth as it was", x.worth(1), -7);
    }

    static void promise20_theNumbersComeInTheNodesOrder() {
        FormulaVisitors x = of("(1+a*2)^3*(b?4:5)-[6]");
        int[] numbers = {1, 2, 4, 5, 6};
        x.let(1, 1);
        x.film(0, 0, 0, 20);
        for (int k = 0; k < 5; k++) due("number " + k, x.tells(0, 0, 0, 100 + k), numbers[k] == 5 ? 0 : numbers[k]);
        due("number 5", x.tells(0, 0, 0, 105), BAD);
    }

    static void promise20_nothingIsChanged() {
        FormulaVisitors x = house();
        for (int what : new int[] {0, 1, 2, 10, 11, 100, 101}) x.tells(0, 0, 0, what);
        dueText("state", state(x), state(house()));
    }

    // ---- promise 21: film

    static void promise21_noSuchSheetIsBad() {
        for (int sheet : NO_SHEET) dueRefused("film on " + sheet, BAD, x -> x.film(sheet, 0, 0, 3));
    }

    static void promise21_noSuchFormulaIsBad() {
        for (int f : NO_FORMULA) dueRefused("film of " + f, BAD, x -> x.film(0, f, 0, 3));
    }

    static void promise21_noSuchNameIsBad() {
        for (int name : NO_NAME) dueRefused("film by " + name, BAD, x -> x.film(0, 0, name, 3));
    }

    static void promise21_lessThan0OrMoreThan20AreBad() {
        for (int n : new int[] {-1, 21, 40, MAX, MIN}) dueRefused("film of " + n, BAD, x -> x.film(0, 0, 0, n));
    }

    static void promise21_anEmptyFormulaIsState() {
        dueRefused("film, EMPTY", STATE, x -> x.film(0, 2, 0, 3));
        dueRefused("film, EMPTY, of 0", STATE, x -> x.film(3, 2, 0, 0));
    }

    static void promise21_badIsNamedAheadOfState() {
        dueRefused("EMPTY, sheet 4", BAD, x -> x.film(4, 2, 0, 3));
        dueRefused("EMPTY, name 8", BAD, x -> x.film(0, 2, 8, 3));
        dueRefused("EMPTY, n 21", BAD, x -> x.film(0, 2, 0, 21));
        dueRefused("EMPTY, n -1", BAD, x -> x.film(0, 2, 0, -1));
    }

    static void promise21_from0To20Come() {
        FormulaVisitors x = of("a*3+2");
        for (int n = 0; n <= 20; n++) {
            due("film of " + n, x.film(0, 0, 0, n), n);
            due("size", sizeOf(x, 0), n);
            due("as told", x.tells(0, 0, 0, 0), NONE);
        }
    }

    static void promise21_aMissingSheetAndOneOfShortsBecomeOneOfInts() {
        FormulaVisitors x = of("a+b");
        x.let(1, 40000);
        x.sheet(1, 0, 40);
        x.sheet(2, 1, 0);
        for (int sheet = 0; sheet < 3; sheet++) {
            due("film on " + sheet, x.film(sheet, 0, 0, 3), 3);
            dueItems(x, sheet, 40000, 40001, 40002);
        }
        x.sheet(0, 1, 3);
        due("of ints", x.copy(1, 0, 0, 0, 3), 3);
    }

    static void promise21_aFilmOfNoneIsNotMissing() {
        FormulaVisitors x = of("a");
        due("film of 0", x.film(3, 0, 0, 0), 0);
        due("no item", x.cell(3, 0, 1), OUTSIDE);
        due("told", x.tells(3, 0, 0, 0), NONE);
    }

    static void promise21_worthsLowest32Bits() {
        FormulaVisitors x = of("a*(2^8^4)+2^8^4-1", "(a+1)*" + LEAST + "-a", "2^9^3*16-a");
        x.film(0, 0, 0, 3);
        dueItems(x, 0, -1, -1, -1);
        x.film(0, 1, 0, 3);
        dueItems(x, 0, 0, -1, -2);
        x.film(0, 2, 0, 2);
        dueItems(x, 0, MIN, MAX);
    }

    static void promise21_theValuesStay() {
        FormulaVisitors x = of("a*b");
        x.let(0, 77);
        x.let(1, MIN);
        x.film(0, 0, 0, 2);
        dueItems(x, 0, 0, MIN);
        due("a", x.count(10), 77);
        due("b", x.count(11), MIN);
    }

    // ---- promises 22 and 23: image and back

    static void promise22_ofNoneOrOfAll() {
        FormulaVisitors x = new FormulaVisitors();
        due("image of none", x.image(), 0);
        for (int f = 0; f < 12; f++) {
            write(x, f, "a");
            due("image", x.image(), f + 1);
        }
    }

    static void promise22_aNewImageTakesTheOldOnesPlace() {
        FormulaVisitors x = of("a*b", "c");
        due("first", x.image(), 2);
        x.turn(1, 0, 0);
        write(x, 0, "7");
        x.let(3, 8);
        due("second", x.image(), 1);
        x.turn(0, 0, 0);
        x.let(3, 9);
        due("back to the second", x.back(), 1);
        due("worth", x.worth(0), 7);
        due("EMPTY", x.worth(1), LONG_STATE);
        due("value", x.count(13), 8);
    }

    static void promise22_theImageIsNoWindow() {
        FormulaVisitors x = of("a*b+7");
        x.let(0, 5);
        x.image();
        x.turn(0, 10, 0);
        x.let(0, 6);
        x.sheet(0, 1, 1);
        x.tells(0, 0, 0, 10);
        due("back", x.back(), 1);
        dueText("formula", printed(x, 0), "a*b+7");
        due("value", x.count(10), 5);
    }

    static void promise23_withoutAnImageItIsState() {
        FormulaVisitors x = of("a", "b+c");
        x.let(0, 4);
        feedAll(x, "a+");
        due("back", x.back(), STATE);
        due("formulas", x.count(0), 2);
        due("nodes", x.count(2), 4);
        due("value", x.count(10), 4);
        due("tape", x.count(1), 2);
        due("back again", x.back(), STATE);
    }

    static void promise23_backToNone() {
        FormulaVisitors x = new FormulaVisitors();
        x.image();
        for (int f = 0; f < 12; f++) write(x, f, "a");
        x.let(0, MAX);
        due("back", x.back(), 0);
        for (int f = 0; f < 12; f++) due("EMPTY", x.worth(f), LONG_STATE);
        due("value", x.count(10), 0);
    }

    static void promise23_allFormulasAndValuesComeBack() {
        FormulaVisitors x = new FormulaVisitors();
        for (int f = 0; f < 12; f++) write(x, f, "h*" + f);
        for (int i = 0; i < 8; i++) x.let(i, i % 2 == 0 ? MIN + i : MAX - i);
        due("image", x.image(), 12);
        for (int f = 0; f < 12; f++) x.turn(f, 0, 0);
        for (int i = 0; i < 8; i++) x.let(i, 0);
        due("back", x.back(), 12);
        for (int i = 0; i < 8; i++) due("value " + i, x.count(10 + i), i % 2 == 0 ? MIN + i : MAX - i);
        for (int f = 0; f < 12; f++) due("worth " + f, x.worth(f), f * (MAX - 7L));
    }

    static void promise23_backAgainAndAgain() {
        FormulaVisitors x = of("a+1");
        x.image();
        for (int i = 0; i < 3; i++) {
            x.turn(0, 0, 0);
            x.let(0, 7);
            due("back", x.back(), 1);
            due("worth", x.worth(0), 1);
        }
    }

    static void promise23_numbersOf64BitsAndFormulasOf200NodesComeBack() {
        FormulaVisitors x = withNodes(200);
        write(x, 1, LEAST);
        x.turn(1, 1, 0);
        x.let(0, 3);
        due("image", x.image(), 3);
        for (int f = 0; f < 3; f++) write(x, f, "7*b+c");
        due("back", x.back(), 3);
        due("nodes", x.node(0, 0, 4), 200);
        due("worth", x.worth(0), -3);
        due("the least long", x.worth(1), Long.MIN_VALUE);
    }

    static void promise23_tapeAndSheetsAreNotInTheImage() {
        FormulaVisitors x = of("a");
        feedAll(x, "b");
        x.sheet(0, 1, 1);
        x.cell(0, 0, 5);
        x.image();
        due("text of what was fed", x.text(1), 1);
        x.cell(0, 0, 6);
        x.sheet(1, 0, 2);
        feedAll(x, "c+");
        due("back", x.back(), 1);
        due("tape", x.count(1), 2);
        due("a new sheet", sizeOf(x, 1), 2);
        due("its text", x.text(2), -102);
        dueItems(x, 0, 6);
    }

    // ---- promise 24: count

    static void promise24_noSuchWhatIsBad() {
        for (int what : new int[] {-1, 3, 4, 9, 18, 19, MAX, MIN, MIN + 10}) dueRefused("count " + what, BAD, x -> x.count(what));
    }

    static void promise24_fromNoneToAllFormulas() {
        FormulaVisitors x = new FormulaVisitors();
        due("none", x.count(0), 0);
        for (int f = 11; f >= 0; f--) {
            write(x, f, "a+b");
            due("formulas", x.count(0), 12 - f);
            due("nodes", x.count(2), 3 * (12 - f));
        }
        for (int f = 0; f < 12; f++) {
            x.turn(f, 0, 0);
            due("formulas", x.count(0), 11 - f);
            due("nodes", x.count(2), 3 * (11 - f));
        }
    }

    static void promise24_theTapeFrom0To120() {
        FormulaVisitors x = new FormulaVisitors();
        due("empty", x.count(1), 0);
        for (int n = 1; n <= 120; n++) {
            x.feed(1, 32, 0, 0, 0, 0);
            due("tape", x.count(1), n);
        }
        x.feed(1, 32, 0, 0, 0, 0);
        due("full", x.count(1), 120);
    }

    static void promise24_theMostNodes() {
        FormulaVisitors x = withNodes(200);
        for (int f = 1; f < 12; f++) x.turn(f, 30, 0);
        due("nodes", x.count(2), 2400);
    }

    static void promise24_valuesOfNames0To7() {
        FormulaVisitors x = new FormulaVisitors();
        for (int i = 0; i < 8; i++) x.let(i, i == 7 ? MIN : MAX - i);
        for (int i = 0; i < 8; i++) due("value " + i, x.count(10 + i), i == 7 ? MIN : MAX - i);
    }

    // ---- promise 25: sheet

    static void promise25_noSuchSheetIsBad() {
        for (int sort = -1; sort < 2; sort++) {
            int s = sort;
            for (int sheet : NO_SHEET) dueRefused("sheet " + sheet, BAD, x -> x.sheet(sheet, s, 3));
        }
    }

    static void promise25_noSuchSortIsBad() {
        for (int sort : new int[] {-2, 2, MAX, MIN}) dueRefused("sort " + sort, BAD, x -> x.sheet(0, sort, 3));
    }

    static void promise25_moreThan40AreBad() {
        for (int n : new int[] {41, MAX}) {
            dueRefused("shorts, " + n, BAD, x -> x.sheet(0, 0, n));
            dueRefused("ints, " + n, BAD, x -> x.sheet(0, 1, n));
        }
    }

    static void promise25_aSizeBelow0IsMinus14() {
        for (int n : new int[] {-1, MIN}) {
            dueRefused("shorts, " + n, BELOW_ZERO, x -> x.sheet(0, 0, n));
            dueRefused("ints, " + n, BELOW_ZERO, x -> x.sheet(3, 1, n));
        }
    }

    static void promise25_badIsNamedAheadOfMinus14() {
        dueRefused("sheet 4, n -1", BAD, x -> x.sheet(4, 0, -1));
        dueRefused("sheet -1, n MIN", BAD, x -> x.sheet(-1, 1, MIN));
        dueRefused("sort 2, n -1", BAD, x -> x.sheet(0, 2, -1));
        dueRefused("sort -2, n -1", BAD, x -> x.sheet(0, -2, -1));
    }

    static void promise25_from0To40Come() {
        FormulaVisitors x = new FormulaVisitors();
        for (int n : new int[] {0, 1, 39, 40}) {
            for (int sort = 0; sort < 2; sort++) {
                due("sheet of " + n, x.sheet(sort, sort, n), 1);
                due("size", sizeOf(x, sort), n);
            }
        }
        due("last item", x.cell(0, 39, 1), 1);
        due("behind it", x.cell(0, 40, 1), OUTSIDE);
    }

    static void promise25_theSizeDoesNotMatterToAMissingOne() {
        for (int n : new int[] {-1, 0, 41, MAX, MIN}) {
            FormulaVisitors x = house();
            due("missing, n " + n, x.sheet(0, -1, n), 1);
            due("missing", x.cell(0, 0, 1), MISSING);
            due("missing again, n " + n, x.sheet(0, -1, n), 1);
            due("missing", sizeOf(x, 0), -1);
        }
    }

    static void promise25_allIs0AlsoWhereSomethingWas() {
        FormulaVisitors x = of("7");
        for (int sort = 0; sort < 2; sort++) {
            x.sheet(0, sort, 3);
            for (int i = 0; i < 3; i++) x.cell(0, i, 9);
            x.sheet(0, sort, 3);
            dueItems(x, 0, 0, 0, 0);
            for (int i = 0; i < 3; i++) x.cell(0, i, 9);
            x.sheet(0, sort, 2);
            x.sheet(0, 1 - sort, 3);
            dueItems(x, 0, 0, 0, 0);
            for (int i = 0; i < 3; i++) x.cell(0, i, 9);
            x.sheet(0, -1, 3);
            x.sheet(0, sort, 3);
            dueItems(x, 0, 0, 0, 0);
        }
    }

    static void promise25_theSortIsAsTold() {
        FormulaVisitors x = new FormulaVisitors();
        x.sheet(0, 0, 1);
        x.sheet(1, 1, 1);
        x.sheet(2, 0, 1);
        due("shorts to ints", x.copy(0, 0, 1, 0, 1), OTHER_SORT);
        due("shorts to shorts", x.copy(0, 0, 2, 0, 1), 1);
        x.sheet(0, 1, 1);
        due("ints to ints", x.copy(0, 0, 1, 0, 1), 1);
        due("ints to shorts", x.copy(0, 0, 2, 0, 1), OTHER_SORT);
    }

    // ---- promise 26: cell

    static void promise26_noSuchSheetIsBad() {
        for (int sheet : NO_SHEET) dueRefused("cell of " + sheet, BAD, x -> x.cell(sheet, 0, 1));
    }

    static void promise26_aMissingSheetIsMinus11() {
        dueRefused("cell, missing", MISSING, x -> x.cell(3, 0, 1));
    }

    static void promise26_aPlaceOutsideIsMinus12() {
        for (int i : new int[] {-1, 6, 7, 39, 40, MAX, MIN}) dueRefused("item " + i, OUTSIDE, x -> x.cell(0, i, 1));
        for (int i : new int[] {-1, 3, 4}) dueRefused("item " + i + " of shorts", OUTSIDE, x -> x.cell(1, i, 1));
    }

    static void promise26_aSheetOfNoneHasNoPlace() {
        FormulaVisitors x = new FormulaVisitors();
        for (int sort = 0; sort < 2; sort++) {
            x.sheet(0, sort, 0);
            due("item 0", x.cell(0, 0, 1), OUTSIDE);
            due("item -1", x.cell(0, -1, 1), OUTSIDE);
        }
    }

    static void promise26_badIsNamedAheadOfMinus12() {
        dueRefused("sheet 4, item -1", BAD, x -> x.cell(4, -1, 1));
        dueRefused("sheet -1, item MAX", BAD, x -> x.cell(-1, MAX, 1));
    }

    static void promise26_minus11IsNamedAheadOfMinus12() {
        dueRefused("missing, item -1", MISSING, x -> x.cell(3, -1, 1));
        dueRefused("missing, item MAX", MISSING, x -> x.cell(3, MAX, 1));
    }

    static void promise26_theFirstAndTheLastItem() {
        FormulaVisitors x = new FormulaVisitors();
        x.sheet(0, 1, 3);
        due("first", x.cell(0, 0, 5), 1);
        due("last", x.cell(0, 2, 7), 1);
        dueItems(x, 0, 5, 0, 7);
    }

    static void promise26_shortsKeepTheirLowest16Bits() {
        int[] given = {32767, 32768, -32768, -32769, 65535, 65536, 70000, MAX, MIN, -1};
        int[] kept = {32767, -32768, -32768, 32767, -1, 0, 4464, -1, 0, -1};
        FormulaVisitors x = new FormulaVisitors();
        for (int i = 0; i < given.length; i++) {
            x.sheet(0, 0, 1);
            due("cell", x.cell(0, 0, given[i]), 1);
            dueItem(x, 0, 0, kept[i]);
        }
    }

    static void promise26_intsKeepAll32Bits() {
        FormulaVisitors x = new FormulaVisitors();
        x.sheet(0, 1, 1);
        for (int v : new int[] {32768, -32769, 65536, MAX, MIN, -1, 0}) {
            due("cell", x.cell(0, 0, v), 1);
            dueItem(x, 0, 0, v);
        }
    }

    // ---- promise 27: copy

    static void promise27_noSuchSheetIsBad() {
        for (int sheet : NO_SHEET) {
            dueRefused("copy of " + sheet, BAD, x -> x.copy(sheet, 0, 0, 0, 1));
            dueRefused("copy to " + sheet, BAD, x -> x.copy(0, 0, sheet, 0, 1));
        }
    }

    static void promise27_aMissingSheetIsMinus11() {
        dueRefused("copy of a missing one", MISSING, x -> x.copy(3, 0, 0, 0, 1));
        dueRefused("copy to a missing one", MISSING, x -> x.copy(0, 0, 3, 0, 1));
        dueRefused("copy of a missing one to itself", MISSING, x -> x.copy(3, 0, 3, 0, 0));
        dueRefused("none of a missing one", MISSING, x -> x.copy(3, 0, 0, 0, 0));
    }

    static void promise27_unlikeSortsAreMinus13() {
        dueRefused("ints to shorts", OTHER_SORT, x -> x.copy(0, 0, 1, 0, 1));
        dueRefused("shorts to ints", OTHER_SORT, x -> x.copy(1, 0, 0, 0, 1));
        dueRefused("none to shorts", OTHER_SORT, x -> x.copy(0, 0, 1, 0, 0));
    }

    static void promise27_placesOutsideAreMinus12() {
        for (int i : new int[] {-1, 6, 7, MAX, MIN}) {
            dueRefused("from " + i, OUTSIDE, x -> x.copy(0, i, 2, 0, 1));
            dueRefused("to " + i, OUTSIDE, x -> x.copy(2, 0, 0, i, 1));
        }
        dueRefused("to 21", OUTSIDE, x -> x.copy(0, 0, 2, 21, 1));
    }

    static void promise27_moreThanThereAreIsMinus12() {
        dueRefused("7 of 6", OUTSIDE, x -> x.copy(0, 0, 2, 0, 7));
        dueRefused("6 of 5", OUTSIDE, x -> x.copy(0, 1, 2, 0, 6));
        dueRefused("2 of the last", OUTSIDE, x -> x.copy(0, 5, 2, 0, 2));
        dueRefused("7 to 6", OUTSIDE, x -> x.copy(2, 0, 0, 0, 7));
        dueRefused("2 to the last", OUTSIDE, x -> x.copy(2, 0, 0, 5, 2));
        dueRefused("MAX", OUTSIDE, x -> x.copy(0, 0, 2, 0, MAX));
    }

    static void promise27_nBelow0IsMinus12() {
        for (int n : new int[] {-1, MIN, MIN + 1}) {
            dueRefused("n " + n, OUTSIDE, x -> x.copy(0, 0, 2, 0, n));
            dueRefused("n " + n + " from within", OUTSIDE, x -> x.copy(0, 3, 0, 3, n));
            dueRefused("n " + n + " from behind", OUTSIDE, x -> x.copy(0, 7, 2, 22, n));
        }
    }

    static void promise27_noSumOfPlacesWraps() {
        dueRefused("1 and MAX", OUTSIDE, x -> x.copy(0, 1, 2, 0, MAX));
        dueRefused("MAX and MAX", OUTSIDE, x -> x.copy(0, MAX, 2, MAX, MAX));
        dueRefused("MAX and 2", OUTSIDE, x -> x.copy(0, MAX, 2, 0, 2));
        dueRefused("to MAX and 2", OUTSIDE, x -> x.copy(0, 0, 2, MAX, 2));
        dueRefused("MIN and MIN", OUTSIDE, x -> x.copy(0, MIN, 2, MIN, MIN));
        dueRefused("from MIN", OUTSIDE, x -> x.copy(0, MIN, 2, 0, 0));
    }

    static void promise27_noneIsFineUpToThePlaceBehindTheLast() {
        FormulaVisitors x = house();
        for (int i = 0; i <= 6; i++) due("none from " + i, x.copy(0, i, 2, 0, 0), 0);
        for (int j = 0; j <= 21; j++) due("none to " + j, x.copy(0, 0, 2, j, 0), 0);
        dueText("state", state(x), state(house()));
        dueRefused("none from 7", OUTSIDE, y -> y.copy(0, 7, 2, 0, 0));
        dueRefused("none to 22", OUTSIDE, y -> y.copy(0, 0, 2, 22, 0));
        dueRefused("none from -1", OUTSIDE, y -> y.copy(0, -1, 2, 0, 0));
    }

    static void promise27_sheetsOfNone() {
        FormulaVisitors x = new FormulaVisitors();
        x.sheet(0, 0, 0);
        x.sheet(1, 0, 3);
        due("none", x.copy(0, 0, 1, 0, 0), 0);
        due("one of none", x.copy(0, 0, 1, 0, 1), OUTSIDE);
        due("one to none", x.copy(1, 0, 0, 0, 1), OUTSIDE);
    }

    static void promise27_all40Come() {
        FormulaVisitors x = new FormulaVisitors();
        x.sheet(0, 1, 40);
        x.sheet(1, 1, 40);
        x.cell(0, 0, MIN);
        x.cell(0, 39, MAX);
        due("40", x.copy(0, 0, 1, 0, 40), 40);
        x.sheet(2, 1, 2);
        due("the first", x.copy(1, 0, 2, 0, 1), 1);
        due("the last", x.copy(1, 39, 2, 1, 1), 1);
        dueItems(x, 2, MIN, MAX);
    }

    static void promise27_asManyAsFitComeAndNoOthers() {
        FormulaVisitors x = of("a+1");
        x.film(0, 0, 0, 6);
        x.sheet(1, 1, 5);
        due("the last three", x.copy(0, 3, 1, 2, 3), 3);
        dueItems(x, 1, 0, 0, 4, 5, 6);
        due("one", x.copy(0, 0, 1, 0, 1), 1);
        dueItems(x, 1, 1, 0, 4, 5, 6);
        dueItems(x, 0, 1, 2, 3, 4, 5, 6);
    }

    static void promise27_withinASheetTheyComeAsTheyWere() {
        FormulaVisitors x = of("a+1");
        x.film(0, 0, 0, 6);
        due("on", x.copy(0, 0, 0, 1, 5), 5);
        dueItems(x, 0, 1, 1, 2, 3, 4, 5);
        x.film(0, 0, 0, 6);
        due("back", x.copy(0, 2, 0, 0, 4), 4);
        dueItems(x, 0, 3, 4, 5, 6, 5, 6);
        due("all", x.copy(0, 0, 0, 0, 6), 6);
        dueItems(x, 0, 3, 4, 5, 6, 5, 6);
    }

    static void promise27_shortsComeToShorts() {
        FormulaVisitors x = new FormulaVisitors();
        x.sheet(0, 0, 2);
        x.sheet(1, 0, 3);
        x.cell(0, 0, -32768);
        x.cell(0, 1, 32767);
        due("copy", x.copy(0, 0, 1, 1, 2), 2);
        dueItems(x, 1, 0, -32768, 32767);
    }

    static void promise27_badIsNamedAheadOfTheOthers() {
        dueRefused("missing, to sheet 4", BAD, x -> x.copy(3, 0, 4, 0, 1));
        dueRefused("sheet -1, to a missing one", BAD, x -> x.copy(-1, 0, 3, 0, 1));
        dueRefused("outside, to sheet 4", BAD, x -> x.copy(0, 9, 4, 9, -1));
    }

    static void promise27_minus11IsNamedAheadOfMinus13AndMinus12() {
        dueRefused("ints to a missing one, outside", MISSING, x -> x.copy(0, 9, 3, 0, 1));
        dueRefused("a missing one to shorts, n -1", MISSING, x -> x.copy(3, 0, 1, 0, -1));
        dueRefused("shorts to a missing one", MISSING, x -> x.copy(1, 0, 3, 0, 1));
    }

    static void promise27_minus13IsNamedAheadOfMinus12() {
        dueRefused("unlike sorts, outside", OTHER_SORT, x -> x.copy(0, 9, 1, 9, 1));
        dueRefused("unlike sorts, n -1", OTHER_SORT, x -> x.copy(1, 0, 0, 0, -1));
        dueRefused("unlike sorts, n MAX", OTHER_SORT, x -> x.copy(0, 0, 1, 0, MAX));
    }

    public static void main(String[] args) {
        runAll(EdgesOfSheetsTest.class);
    }
}
