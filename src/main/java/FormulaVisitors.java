/**
 * Formulas that are visited. A formula is kept as a row of its nodes, each node ahead of the nodes
 * of its parts: a visitor that goes through the row from its end meets all parts ahead of what they
 * are parts of, so that no visitor needs recursion, however deep a formula is.
 *
 * <p>All rows are made with the object and used again: no call makes an object.
 */
public final class FormulaVisitors {
    public static final int NONE = -1, BAD = -2, STATE = -3, FULL = -4, DEAR = -6;

    private static final int MISSING = -11, OUTSIDE = -12, OTHER_SORT = -13, BELOW_ZERO = -14;
    private static final long LONG_LESS = 1000000L;
    private static final int FAULT_LESS = 100;

    private static final int NUMBER = 0, NAME = 1, NEGATED = 2, SUM = 3, PRODUCT = 4, POWER = 5;
    private static final int PICK = 6, SQUARE = 7, KINDS = 8;
    private static final int[] PARTS = {0, 0, 1, 2, 2, 1, 3, 1};

    private static final int FORMULAS = 12, NODES = 200, NAMES = 8, SHEETS = 4, TAPE_ROOM = 120;
    private static final int FED_AT_MOST = 5, OPEN_AT_MOST = 5, DIGITS_AT_MOST = 4, DIGIT_AT_MOST = 9;
    private static final int PURSE_AT_MOST = 9999, TOLD_AT_MOST = 9999;
    private static final int SOUGHT_AT_MOST = 100, SEEDS_AT_MOST = 20;
    private static final int SHEET_ROOM = 40, TELLS_AT_MOST = 20, TRIED_NUMBERS = 100, LAST_NUMBER = 40;
    private static final int SHORTS = 0, INTS = 1;

    private static final int EMPTIED = 0, FOLDED = 1, DERIVED = 10, REPLACED = 20, TAKEN_OVER = 30;

    private final Formula[] formulas = new Formula[FORMULAS];
    private final Formula[] keptFormulas = new Formula[FORMULAS];
    private final int[] values = new int[NAMES];
    private final int[] keptValues = new int[NAMES];
    private boolean imageKept;
    private final Sheet[] sheets = new Sheet[SHEETS];
    private final int[] fed = new int[FED_AT_MOST];
    private final int[] supposed = new int[NAMES];
    private final Formula changed = new Formula();
    private final Draft draft = new Draft();
    private final Reader reader = new Reader(draft);
    private final Turner turner = new Turner(draft);
    private final Valuer valuer = new Valuer();
    private final Printer printer = new Printer();
    private final Machine machine = new Machine();
    private final Gauge gauge = new Gauge();

    public FormulaVisitors() {
        for (int i = 0; i < FORMULAS; i++) {
            formulas[i] = new Formula();
            keptFormulas[i] = new Formula();
        }
        for (int i = 0; i < SHEETS; i++) {
            sheets[i] = new Sheet();
        }
    }

    // ---- formulas

    public int feed(int n, int a, int b, int c, int d, int e) {
        if (n < 1 || n > FED_AT_MOST || !isByte(a) || !isByte(b) || !isByte(c) || !isByte(d) || !isByte(e)) {
            return BAD;
        }
        if (reader.tapeSize() + n > TAPE_ROOM) {
            return FULL;
        }
        fed[0] = a;
        fed[1] = b;
        fed[2] = c;
        fed[3] = d;
        fed[4] = e;
        for (int i = 0; i < n; i++) {
            reader.append(fed[i]);
        }
        return reader.tapeSize();
    }

    public int text(int formula) {
        if (!isFormula(formula)) {
            return BAD;
        }
        int root = reader.readTape();
        if (root < 0) {
            return -FAULT_LESS - reader.faultPlace();
        }
        draft.settle(root, formulas[formula]);
        return formulas[formula].size();
    }

    public int let(int name, int v) {
        if (!isName(name)) {
            return BAD;
        }
        int was = values[name];
        values[name] = v;
        return was;
    }

    public int turn(int formula, int what, int by) {
        boolean usesBy = what >= REPLACED;
        if (!isFormula(formula) || !isTurn(what) || usesBy && !isFormula(by)) {
            return BAD;
        }
        Formula it = formulas[formula];
        boolean usesIt = what != EMPTIED && what != TAKEN_OVER;
        if (usesIt && it.isEmpty() || usesBy && formulas[by].isEmpty()) {
            return STATE;
        }
        if (what == EMPTIED) {
            it.clear();
        } else if (what == TAKEN_OVER) {
            it.become(formulas[by]);
        } else {
            int root = turnedRoot(it, what, by);
            if (draft.nodes(root) > NODES) {
                return FULL;
            }
            draft.settle(root, it);
        }
        return it.size();
    }

    public int node(int formula, int k, int what) {
        int refusal = refusalOfNode(formula, k, what >= 0 && what <= 4);
        if (refusal != 0) {
            return refusal;
        }
        Formula it = formulas[formula];
        switch (what) {
            case 0:
                return it.kind(k);
            case 1:
                return it.kind(k) == NUMBER ? (int) it.number(k) : NONE;
            case 2:
                return it.kind(k) == NAME ? (int) it.number(k) : NONE;
            case 3:
                return it.kind(k) == POWER ? (int) it.number(k) : NONE;
            default:
                return it.nodes(k);
        }
    }

    public int taken(int formula, int k, int kind) {
        int refusal = refusalOfNode(formula, k, isKind(kind));
        if (refusal != 0) {
            return refusal;
        }
        Formula it = formulas[formula];
        if (it.kind(k) == kind) {
            return it.nodes(k);
        }
        if (it.kind(k) == SQUARE && kind == PRODUCT) {
            return 1 + 2 * it.nodes(it.part(k, 0));
        }
        return OTHER_SORT;
    }

    // ---- what visitors tell

    public long worth(int formula) {
        int refusal = refusalOf(formula, true);
        return refusal != 0 ? refusal - LONG_LESS : valuer.worthOf(formulas[formula], values);
    }

    public int met(int formula, int kind) {
        int refusal = refusalOf(formula, kind >= 0 && kind <= KINDS);
        return refusal != 0 ? refusal : valuer.metOf(formulas[formula], values, kind);
    }

    public long purse(int formula, int n) {
        int refusal = refusalOf(formula, n >= 0 && n <= PURSE_AT_MOST);
        if (refusal != 0) {
            return refusal - LONG_LESS;
        }
        if (valuer.metOf(formulas[formula], values, KINDS) > n) {
            return DEAR - LONG_LESS;
        }
        return valuer.worthOf(formulas[formula], values);
    }

    public int print(int formula, int k) {
        int refusal = refusalOf(formula, true);
        if (refusal != 0) {
            return refusal;
        }
        int size = printer.printed(formulas[formula]);
        if (k < -1 || k >= size) {
            return OUTSIDE;
        }
        return k < 0 ? size : printer.byteAt(k);
    }

    public int measure(int formula, int kind) {
        int refusal = refusalOf(formula, kind >= Gauge.SIZE && kind <= Gauge.OPENED);
        return refusal != 0 ? refusal : gauge.measureOf(formulas[formula], kind);
    }

    public int code(int formula, int k) {
        int refusal = refusalOf(formula, k >= -3);
        if (refusal != 0) {
            return refusal;
        }
        machine.translate(formulas[formula]);
        if (k >= machine.lineCount()) {
            return OUTSIDE;
        }
        if (k >= 0) {
            return machine.lineAt(k);
        }
        if (k == -1) {
            return machine.lineCount();
        }
        machine.execute(values);
        return k == -2 ? machine.steps() : machine.high();
    }

    public long run(int formula) {
        int refusal = refusalOf(formula, true);
        if (refusal != 0) {
            return refusal - LONG_LESS;
        }
        machine.translate(formulas[formula]);
        return machine.execute(values);
    }

    public int alike(int formula, int other, int what) {
        if (!isFormula(formula) || !isFormula(other) || what < 0 || what > 2) {
            return BAD;
        }
        Formula it = formulas[formula];
        Formula that = formulas[other];
        if (it.isEmpty() || what != 2 && that.isEmpty()) {
            return STATE;
        }
        if (what == 0) {
            return it.isAlike(0, that, 0) ? 1 : 0;
        }
        return what == 1 ? sharedBy(it, that) : unlikeOf(it);
    }

    public int degree(int formula, int name) {
        int refusal = refusalOf(formula, isName(name));
        return refusal != 0 ? refusal : gauge.degreeOf(formulas[formula], name);
    }

    public int sought(int formula, int name, int low, int n, int w, int what) {
        boolean asTold = isName(name) && n >= 1 && n <= SOUGHT_AT_MOST && (what == 0 || what == 1);
        int refusal = refusalOf(formula, asTold);
        if (refusal != 0) {
            return refusal;
        }
        supposeValues();
        int found = 0;
        for (int i = 0; i < n; i++) {
            supposed[name] = low + i;
            if (valuer.worthOf(formulas[formula], supposed) == w) {
                if (what == 1) {
                    return low + i;
                }
                found++;
            }
        }
        return found;
    }

    public long drawn(int formula, int seed) {
        int refusal = refusalOf(formula, true);
        return refusal != 0 ? refusal - LONG_LESS : drawnWorth(formulas[formula], seed);
    }

    public int chance(int formula, int seed, int m, int w, int part) {
        boolean asTold = m >= 1 && m <= SEEDS_AT_MOST && (part == 0 || part == 1);
        int refusal = refusalOf(formula, asTold);
        if (refusal != 0) {
            return refusal;
        }
        int within = 0;
        for (int i = 0; i < m; i++) {
            if (drawnWorth(formulas[formula], seed + i) <= w) {
                within++;
            }
        }
        int divisor = commonDivisor(within, m);
        return (part == 0 ? within : m) / (divisor > 0 ? divisor : 1);
    }

    // ---- what was told

    public int tells(int sheet, int formula, int name, int what) {
        if (!isSheet(sheet) || !isFormula(formula) || !isName(name) || !isQuestion(what)) {
            return BAD;
        }
        Formula it = formulas[formula];
        int place = what < 10 ? 0 : it.placeOfNumber(what < 100 ? what - 10 : what - 100);
        // An EMPTY formula has no numbers: the document names that refusal ahead of STATE.
        if (place < 0) {
            return BAD;
        }
        if (it.isEmpty()) {
            return STATE;
        }
        Sheet told = sheets[sheet];
        if (told.isMissing()) {
            return MISSING;
        }
        if (told.size() > TELLS_AT_MOST) {
            return BAD;
        }
        switch (what) {
            case 0:
                return firstOtherwise(told, it, name);
            case 1:
                return formulasTold(told, name);
            case 2:
                return namesTold(told, it);
            default:
                return numbersTold(told, it, name, place, what >= 100);
        }
    }

    public int film(int sheet, int formula, int name, int n) {
        boolean asTold = isSheet(sheet) && isName(name) && n >= 0 && n <= TELLS_AT_MOST;
        int refusal = refusalOf(formula, asTold);
        if (refusal != 0) {
            return refusal;
        }
        Sheet filmed = sheets[sheet];
        filmed.begin(INTS, n);
        supposeValues();
        for (int i = 0; i < n; i++) {
            supposed[name] = i;
            filmed.set(i, (int) valuer.worthOf(formulas[formula], supposed));
        }
        return n;
    }

    public int image() {
        for (int i = 0; i < FORMULAS; i++) {
            keptFormulas[i].become(formulas[i]);
        }
        System.arraycopy(values, 0, keptValues, 0, NAMES);
        imageKept = true;
        return fullFormulas();
    }

    public int back() {
        if (!imageKept) {
            return STATE;
        }
        for (int i = 0; i < FORMULAS; i++) {
            formulas[i].become(keptFormulas[i]);
        }
        System.arraycopy(keptValues, 0, values, 0, NAMES);
        return fullFormulas();
    }

    public int count(int what) {
        if (what >= 10 && isName(what - 10)) {
            return values[what - 10];
        }
        switch (what) {
            case 0:
                return fullFormulas();
            case 1:
                return reader.tapeSize();
            case 2:
                return allNodes();
            default:
                return BAD;
        }
    }

    // ---- the host

    public int sheet(int sheet, int sort, int n) {
        if (!isSheet(sheet) || sort < -1 || sort > INTS) {
            return BAD;
        }
        if (sort < 0) {
            sheets[sheet].remove();
            return 1;
        }
        if (n > SHEET_ROOM) {
            return BAD;
        }
        if (n < 0) {
            return BELOW_ZERO;
        }
        sheets[sheet].begin(sort, n);
        return 1;
    }

    public int cell(int sheet, int i, int v) {
        if (!isSheet(sheet)) {
            return BAD;
        }
        if (sheets[sheet].isMissing()) {
            return MISSING;
        }
        if (i < 0 || i >= sheets[sheet].size()) {
            return OUTSIDE;
        }
        sheets[sheet].set(i, v);
        return 1;
    }

    public int copy(int sheet, int i, int other, int j, int n) {
        if (!isSheet(sheet) || !isSheet(other)) {
            return BAD;
        }
        Sheet from = sheets[sheet];
        Sheet to = sheets[other];
        if (from.isMissing() || to.isMissing()) {
            return MISSING;
        }
        if (from.sort() != to.sort()) {
            return OTHER_SORT;
        }
        if (!from.holds(i, n) || !to.holds(j, n)) {
            return OUTSIDE;
        }
        to.take(j, from, i, n);
        return n;
    }

    // ---- what the calls share

    private static boolean isByte(int v) {
        return v >= 0 && v <= 255;
    }

    private static boolean isFormula(int formula) {
        return formula >= 0 && formula < FORMULAS;
    }

    private static boolean isName(int name) {
        return name >= 0 && name < NAMES;
    }

    private static boolean isKind(int kind) {
        return kind >= 0 && kind < KINDS;
    }

    private static boolean isSheet(int sheet) {
        return sheet >= 0 && sheet < SHEETS;
    }

    private static boolean isTurn(int what) {
        return what == EMPTIED || what == FOLDED || what == TAKEN_OVER
                || what >= DERIVED && isName(what - DERIVED)
                || what >= REPLACED && isName(what - REPLACED);
    }

    private static boolean isQuestion(int what) {
        return what >= 0 && what <= 2
                || what >= 10 && what <= 10 + LAST_NUMBER
                || what >= 100 && what <= 100 + LAST_NUMBER;
    }

    /** BAD, STATE, or 0 where the call may go on. */
    private int refusalOf(int formula, boolean asTold) {
        if (!isFormula(formula) || !asTold) {
            return BAD;
        }
        return formulas[formula].isEmpty() ? STATE : 0;
    }

    /** As refusalOf; else -12, where the formula has no node k. */
    private int refusalOfNode(int formula, int k, boolean asTold) {
        int refusal = refusalOf(formula, asTold);
        if (refusal != 0) {
            return refusal;
        }
        return formulas[formula].has(k) ? 0 : OUTSIDE;
    }

    private int turnedRoot(Formula it, int what, int by) {
        if (what == FOLDED) {
            return turner.folded(it);
        }
        if (what < REPLACED) {
            return turner.derived(it, what - DERIVED);
        }
        return turner.replaced(it, what - REPLACED, formulas[by]);
    }

    private static int sharedBy(Formula it, Formula that) {
        int most = 0;
        for (int i = 0; i < it.size(); i++) {
            for (int j = 0; j < that.size() && it.nodes(i) > most; j++) {
                if (it.isAlike(i, that, j)) {
                    most = it.nodes(i);
                }
            }
        }
        return most;
    }

    private static int unlikeOf(Formula it) {
        int unlike = 0;
        for (int i = 0; i < it.size(); i++) {
            boolean isNew = true;
            for (int j = 0; j < i && isNew; j++) {
                isNew = !it.isAlike(i, it, j);
            }
            if (isNew) {
                unlike++;
            }
        }
        return unlike;
    }

    private void supposeValues() {
        System.arraycopy(values, 0, supposed, 0, NAMES);
    }

    private long drawnWorth(Formula it, int seed) {
        int z = seed;
        for (int i = 0; i < NAMES; i++) {
            z = z * 1103515245 + 12345;
            supposed[i] = (z >>> 9) % 21 - 10;
        }
        return valuer.worthOf(it, supposed);
    }

    private static int commonDivisor(int a, int b) {
        int greater = a;
        int rest = b;
        for (int steps = 0; steps < 64 && rest != 0; steps++) {
            int left = greater % rest;
            greater = rest;
            rest = left;
        }
        return greater;
    }

    private int firstOtherwise(Sheet told, Formula it, int name) {
        if (!isName(name)) {
            return NONE;
        }
        supposeValues();
        for (int i = 0; i < told.size(); i++) {
            supposed[name] = i;
            if ((int) valuer.worthOf(it, supposed) != told.at(i)) {
                return i;
            }
        }
        return NONE;
    }

    private int formulasTold(Sheet told, int name) {
        int bits = 0;
        for (int i = 0; i < FORMULAS; i++) {
            if (!formulas[i].isEmpty() && firstOtherwise(told, formulas[i], name) == NONE) {
                bits |= 1 << i;
            }
        }
        return bits;
    }

    private int namesTold(Sheet told, Formula it) {
        int bits = 0;
        for (int i = 0; i < NAMES; i++) {
            if (firstOtherwise(told, it, i) == NONE) {
                bits |= 1 << i;
            }
        }
        return bits;
    }

    private int numbersTold(Sheet told, Formula it, int name, int place, boolean leastAsked) {
        changed.become(it);
        int fitting = 0;
        for (int v = 0; v < TRIED_NUMBERS; v++) {
            changed.setNumber(place, v);
            if (firstOtherwise(told, changed, name) == NONE) {
                if (leastAsked) {
                    return v;
                }
                fitting++;
            }
        }
        return leastAsked ? NONE : fitting;
    }

    private int fullFormulas() {
        int full = 0;
        for (int i = 0; i < FORMULAS; i++) {
            if (!formulas[i].isEmpty()) {
                full++;
            }
        }
        return full;
    }

    private int allNodes() {
        int nodes = 0;
        for (int i = 0; i < FORMULAS; i++) {
            nodes += formulas[i].size();
        }
        return nodes;
    }

    /** A tree as a row: each node ahead of the nodes of its first part, these ahead of its second's. */
    private static final class Formula {
        private final int[] kinds = new int[NODES];
        /** What a NUMBER is, which NAME, which digit of a POWER; 0 of all others. */
        private final long[] numbers = new long[NODES];
        private final int[] sizes = new int[NODES];
        private int size;

        int size() {
            return size;
        }

        boolean isEmpty() {
            return size == 0;
        }

        boolean has(int i) {
            return i >= 0 && i < size;
        }

        int kind(int i) {
            return has(i) ? kinds[i] : NUMBER;
        }

        long number(int i) {
            return has(i) ? numbers[i] : 0;
        }

        /** How many parts node i has. */
        int parts(int i) {
            int kind = kind(i);
            return isKind(kind) ? PARTS[kind] : 0;
        }

        int nodes(int i) {
            return i >= 0 && i < size ? sizes[i] : 0;
        }

        /** Where a part (0, 1 or 2) of node i begins. */
        int part(int i, int which) {
            int place = i + 1;
            for (int skipped = 0; skipped < which && skipped < 3; skipped++) {
                place += nodes(place);
            }
            return place;
        }

        int placeOfNumber(int k) {
            int ahead = 0;
            for (int i = 0; i < size; i++) {
                if (kinds[i] == NUMBER) {
                    if (ahead == k) {
                        return i;
                    }
                    ahead++;
                }
            }
            return NONE;
        }

        void clear() {
            size = 0;
        }

        void add(int kind, long number, int nodes) {
            if (size < NODES) {
                kinds[size] = kind;
                numbers[size] = number;
                sizes[size] = nodes;
                size++;
            }
        }

        void setNumber(int i, long number) {
            if (has(i)) {
                numbers[i] = number;
            }
        }

        void become(Formula other) {
            System.arraycopy(other.kinds, 0, kinds, 0, other.size);
            System.arraycopy(other.numbers, 0, numbers, 0, other.size);
            System.arraycopy(other.sizes, 0, sizes, 0, other.size);
            size = other.size;
        }

        /** Rows of the same kinds and numbers are the same trees, as a kind tells how many parts it has. */
        boolean isAlike(int i, Formula other, int j) {
            int nodes = nodes(i);
            if (nodes != other.nodes(j)) {
                return false;
            }
            for (int k = 0; k < nodes; k++) {
                if (kind(i + k) != other.kind(j + k) || number(i + k) != other.number(j + k)) {
                    return false;
                }
            }
            return true;
        }
    }

    /** Trees while they are made; one of them may be a part of several, which a row writes out then. */
    private static final class Draft {
        /** Deriving needs most: the trees as they are and four new ones for each. */
        private static final int ROOM = 6 * NODES;
        private static final int FAR_TOO_MANY = 1000000;

        private final int[] kinds = new int[ROOM];
        private final long[] numbers = new long[ROOM];
        private final int[] firsts = new int[ROOM];
        private final int[] seconds = new int[ROOM];
        private final int[] thirds = new int[ROOM];
        private final int[] sizes = new int[ROOM];
        private int used;
        private final int[] waiting = new int[3 * NODES];
        private int waits;

        void clear() {
            used = 0;
        }

        private boolean has(int tree) {
            return tree >= 0 && tree < used;
        }

        boolean isNumber(int tree) {
            return has(tree) && kinds[tree] == NUMBER;
        }

        boolean isNumber(int tree, long number) {
            return isNumber(tree) && numbers[tree] == number;
        }

        int kind(int tree) {
            return has(tree) ? kinds[tree] : NUMBER;
        }

        long number(int tree) {
            return has(tree) ? numbers[tree] : 0;
        }

        int first(int tree) {
            return has(tree) ? firsts[tree] : NONE;
        }

        int nodes(int tree) {
            return tree >= 0 && tree < used ? sizes[tree] : 0;
        }

        int make(int kind, long number, int first, int second, int third) {
            if (used >= ROOM) {
                return NONE;
            }
            kinds[used] = kind;
            numbers[used] = number;
            firsts[used] = first;
            seconds[used] = second;
            thirds[used] = third;
            sizes[used] = Math.min(FAR_TOO_MANY, 1 + nodes(first) + nodes(second) + nodes(third));
            used++;
            return used - 1;
        }

        int leaf(int kind, long number) {
            return make(kind, number, NONE, NONE, NONE);
        }

        int pair(int kind, int first, int second) {
            return make(kind, 0, first, second, NONE);
        }

        private void await(int tree) {
            if (has(tree) && waits < waiting.length) {
                waiting[waits] = tree;
                waits++;
            }
        }

        /** Writes a tree of at most 200 nodes out as a row. */
        void settle(int root, Formula row) {
            row.clear();
            waits = 0;
            await(root);
            for (int i = 0; i < NODES && waits > 0; i++) {
                waits--;
                int tree = waiting[waits];
                row.add(kinds[tree], numbers[tree], sizes[tree]);
                await(thirds[tree]);
                await(seconds[tree]);
                await(firsts[tree]);
            }
        }
    }

    /** THE TAPE, and how a text is read from it. */
    private static final class Reader {
        private static final int END = 0, WRONG = 1, A_NAME = 2, A_NUMBER = 3;

        private final Draft draft;
        private final int[] tape = new int[TAPE_ROOM];
        private int size;
        /** The token that is looked at: a sign's byte or one of the above, where it begins and ends. */
        private int token;
        private int place;
        private int end;
        private int value;
        private int fault;

        Reader(Draft draft) {
            this.draft = draft;
        }

        int tapeSize() {
            return size;
        }

        int faultPlace() {
            return fault;
        }

        void append(int v) {
            if (size < TAPE_ROOM) {
                tape[size] = v;
                size++;
            }
        }

        /** The draft's tree of the text, or NONE at a fault; the tape is empty afterwards. */
        int readTape() {
            draft.clear();
            fault = NONE;
            end = 0;
            advance();
            int root = choice(0);
            if (root >= 0 && token != END) {
                root = fail();
            }
            size = 0;
            return root;
        }

        private int byteAt(int i) {
            return i >= 0 && i < size ? tape[i] : END;
        }

        private static boolean isBlank(int v) {
            return v == 32 || v == 10;
        }

        private static boolean isLetter(int v) {
            return v >= 'a' && v <= 'z';
        }

        private static boolean isDigit(int v) {
            return v >= '0' && v <= '9';
        }

        private static boolean isSign(int v) {
            switch (v) {
                case '(': case ')': case '[': case ']': case '+':
                case '-': case '*': case '^': case '?': case ':':
                    return true;
                default:
                    return false;
            }
        }

        private void advance() {
            place = end;
            while (place < size && isBlank(byteAt(place))) {
                place++;
            }
            end = place;
            int v = byteAt(place);
            if (place >= size) {
                token = END;
            } else if (isLetter(v)) {
                takeWord(v);
            } else if (isDigit(v)) {
                takeNumber();
            } else {
                end++;
                token = isSign(v) ? v : WRONG;
            }
        }

        private void takeWord(int letter) {
            while (end < size && isLetter(byteAt(end))) {
                end++;
            }
            value = letter - 'a';
            token = end - place == 1 && isName(value) ? A_NAME : WRONG;
        }

        private void takeNumber() {
            value = 0;
            while (end < size && isDigit(byteAt(end))) {
                value = value * 10 + byteAt(end) - '0';
                end++;
            }
            token = end - place <= DIGITS_AT_MOST ? A_NUMBER : WRONG;
        }

        private int fail() {
            fault = place;
            return NONE;
        }

        private int choice(int open) {
            int which = sum(open);
            if (which < 0 || token != '?') {
                return which;
            }
            advance();
            int one = sum(open);
            if (one < 0) {
                return NONE;
            }
            if (token != ':') {
                return fail();
            }
            advance();
            int other = sum(open);
            return other < 0 ? NONE : draft.make(PICK, 0, which, one, other);
        }

        private int sum(int open) {
            int all = term(open);
            for (int i = 0; i < TAPE_ROOM && all >= 0 && (token == '+' || token == '-'); i++) {
                boolean isLess = token == '-';
                advance();
                int next = term(open);
                if (next < 0) {
                    return NONE;
                }
                all = draft.pair(SUM, all, isLess ? draft.pair(NEGATED, next, NONE) : next);
            }
            return all;
        }

        private int term(int open) {
            int all = pow(open);
            for (int i = 0; i < TAPE_ROOM && all >= 0 && token == '*'; i++) {
                advance();
                int next = pow(open);
                if (next < 0) {
                    return NONE;
                }
                all = draft.pair(PRODUCT, all, next);
            }
            return all;
        }

        private int pow(int open) {
            int all = one(open);
            for (int i = 0; i < TAPE_ROOM && all >= 0 && token == '^'; i++) {
                advance();
                if (token != A_NUMBER || value > DIGIT_AT_MOST) {
                    return fail();
                }
                all = draft.make(POWER, value, all, NONE, NONE);
                advance();
            }
            return all;
        }

        private int one(int open) {
            switch (token) {
                case A_NUMBER:
                    return leafOf(NUMBER);
                case A_NAME:
                    return leafOf(NAME);
                case '-':
                    return open < OPEN_AT_MOST ? negated(open + 1) : fail();
                case '(':
                    return open < OPEN_AT_MOST ? enclosed(open + 1, ')') : fail();
                case '[':
                    return open < OPEN_AT_MOST ? squared(open + 1) : fail();
                default:
                    return fail();
            }
        }

        private int leafOf(int kind) {
            int leaf = draft.leaf(kind, value);
            advance();
            return leaf;
        }

        private int negated(int open) {
            advance();
            int tree = one(open);
            return tree < 0 ? NONE : draft.pair(NEGATED, tree, NONE);
        }

        private int squared(int open) {
            int tree = enclosed(open, ']');
            return tree < 0 ? NONE : draft.pair(SQUARE, tree, NONE);
        }

        private int enclosed(int open, int closing) {
            advance();
            int tree = choice(open);
            if (tree < 0) {
                return NONE;
            }
            if (token != closing) {
                return fail();
            }
            advance();
            return tree;
        }
    }

    /** Makes drafts of what a formula becomes when it is folded, derived, or others put in its names. */
    private static final class Turner {
        private final Draft draft;
        /** The draft's trees of the nodes of a formula, as they are and as they become. */
        private final int[] plain = new int[NODES];
        private final int[] turned = new int[NODES];

        Turner(Draft draft) {
            this.draft = draft;
        }

        private static int partOf(int[] trees, Formula it, int i, int which) {
            if (which >= it.parts(i)) {
                return NONE;
            }
            int place = it.part(i, which);
            return place >= 0 && place < trees.length ? trees[place] : NONE;
        }

        /** A tree of the kind and the number of node i, of other parts. */
        private int remade(int[] trees, Formula it, int i) {
            return draft.make(it.kind(i), it.number(i),
                    partOf(trees, it, i, 0), partOf(trees, it, i, 1), partOf(trees, it, i, 2));
        }

        int replaced(Formula it, int name, Formula by) {
            draft.clear();
            for (int i = by.size() - 1; i >= 0; i--) {
                turned[i] = remade(turned, by, i);
            }
            int root = turned[0];
            for (int i = it.size() - 1; i >= 0; i--) {
                boolean isThat = it.kind(i) == NAME && it.number(i) == name;
                plain[i] = isThat ? root : remade(plain, it, i);
            }
            return plain[0];
        }

        int derived(Formula it, int name) {
            draft.clear();
            for (int i = it.size() - 1; i >= 0; i--) {
                plain[i] = remade(plain, it, i);
                turned[i] = derivedNode(it, i, name);
            }
            return turned[0];
        }

        private int derivedNode(Formula it, int i, int name) {
            int first = partOf(turned, it, i, 0);
            int second = partOf(turned, it, i, 1);
            switch (it.kind(i)) {
                case NAME:
                    return draft.leaf(NUMBER, it.number(i) == name ? 1 : 0);
                case NEGATED:
                    return draft.pair(NEGATED, first, NONE);
                case SUM:
                    return draft.pair(SUM, first, second);
                case PRODUCT:
                    return derivedProduct(partOf(plain, it, i, 0), first, partOf(plain, it, i, 1), second);
                case POWER:
                    return derivedPower(partOf(plain, it, i, 0), first, it.number(i));
                case PICK:
                    return draft.make(PICK, 0, partOf(plain, it, i, 0), second, partOf(turned, it, i, 2));
                case SQUARE:
                    return derivedProduct(partOf(plain, it, i, 0), first, partOf(plain, it, i, 0), first);
                default:
                    return draft.leaf(NUMBER, 0);
            }
        }

        private int derivedProduct(int a, int aDerived, int b, int bDerived) {
            return draft.pair(SUM, draft.pair(PRODUCT, aDerived, b), draft.pair(PRODUCT, a, bDerived));
        }

        private int derivedPower(int tree, int treeDerived, long digit) {
            if (digit == 0) {
                return draft.leaf(NUMBER, 0);
            }
            int lower = draft.make(POWER, digit - 1, tree, NONE, NONE);
            return draft.pair(PRODUCT, draft.pair(PRODUCT, draft.leaf(NUMBER, digit), lower), treeDerived);
        }

        int folded(Formula it) {
            draft.clear();
            for (int i = it.size() - 1; i >= 0; i--) {
                turned[i] = foldedNode(it, i);
            }
            return turned[0];
        }

        private int foldedNode(Formula it, int i) {
            int first = partOf(turned, it, i, 0);
            int second = partOf(turned, it, i, 1);
            switch (it.kind(i)) {
                case NEGATED:
                    return foldedNegated(first);
                case SUM:
                    return foldedSum(first, second);
                case PRODUCT:
                    return foldedProduct(first, second);
                case POWER:
                    return foldedPower(first, it.number(i));
                case PICK:
                    return foldedPick(first, second, partOf(turned, it, i, 2));
                case SQUARE:
                    return foldedSquare(first);
                default:
                    return draft.leaf(it.kind(i), it.number(i));
            }
        }

        private int foldedNegated(int tree) {
            if (draft.isNumber(tree)) {
                return draft.leaf(NUMBER, -draft.number(tree));
            }
            return draft.kind(tree) == NEGATED ? draft.first(tree) : draft.pair(NEGATED, tree, NONE);
        }

        private int foldedSum(int a, int b) {
            if (draft.isNumber(a) && draft.isNumber(b)) {
                return draft.leaf(NUMBER, draft.number(a) + draft.number(b));
            }
            if (draft.isNumber(a, 0)) {
                return b;
            }
            return draft.isNumber(b, 0) ? a : draft.pair(SUM, a, b);
        }

        private int foldedProduct(int a, int b) {
            if (draft.isNumber(a) && draft.isNumber(b)) {
                return draft.leaf(NUMBER, draft.number(a) * draft.number(b));
            }
            if (draft.isNumber(a, 0) || draft.isNumber(b, 0)) {
                return draft.leaf(NUMBER, 0);
            }
            if (draft.isNumber(a, 1)) {
                return b;
            }
            return draft.isNumber(b, 1) ? a : draft.pair(PRODUCT, a, b);
        }

        private int foldedPower(int tree, long digit) {
            if (digit == 0) {
                return draft.leaf(NUMBER, 1);
            }
            if (digit == 1) {
                return tree;
            }
            if (draft.isNumber(tree)) {
                return draft.leaf(NUMBER, Valuer.power(draft.number(tree), digit));
            }
            return draft.make(POWER, digit, tree, NONE, NONE);
        }

        private int foldedPick(int which, int one, int other) {
            if (draft.isNumber(which)) {
                return draft.number(which) != 0 ? one : other;
            }
            return draft.make(PICK, 0, which, one, other);
        }

        private int foldedSquare(int tree) {
            if (draft.isNumber(tree)) {
                return draft.leaf(NUMBER, draft.number(tree) * draft.number(tree));
            }
            return draft.pair(SQUARE, tree, NONE);
        }
    }

    /** Tells what formulas are worth, and which nodes are asked for that. */
    private static final class Valuer {
        private final long[] worths = new long[NODES];
        private final boolean[] asked = new boolean[NODES];

        static long power(long v, long times) {
            long all = 1;
            for (int i = 0; i < times && i < DIGIT_AT_MOST; i++) {
                all *= v;
            }
            return all;
        }

        /** What isn't asked is valued too: that changes nothing, as no value can go wrong. */
        long worthOf(Formula it, int[] values) {
            for (int i = it.size() - 1; i >= 0; i--) {
                worths[i] = nodeWorth(it, i, values);
            }
            return worths[0];
        }

        private long worthAt(int i) {
            return i >= 0 && i < NODES ? worths[i] : 0;
        }

        private static long valueOf(int[] values, long name) {
            return name >= 0 && name < values.length ? values[(int) name] : 0;
        }

        private long nodeWorth(Formula it, int i, int[] values) {
            long first = worthAt(i + 1);
            switch (it.kind(i)) {
                case NUMBER:
                    return it.number(i);
                case NAME:
                    return valueOf(values, it.number(i));
                case NEGATED:
                    return -first;
                case SUM:
                    return first + worthAt(it.part(i, 1));
                case PRODUCT:
                    return first * worthAt(it.part(i, 1));
                case POWER:
                    return power(first, it.number(i));
                case PICK:
                    return worthAt(it.part(i, first != 0 ? 1 : 2));
                default:
                    return first * first;
            }
        }

        /** How many nodes of a kind, or of all (KINDS), are met by worth. */
        int metOf(Formula it, int[] values, int kind) {
            worthOf(it, values);
            for (int i = 0; i < NODES; i++) {
                asked[i] = i == 0;
            }
            int met = 0;
            for (int i = 0; i < it.size(); i++) {
                if (asked[i]) {
                    met += metAs(it.kind(i), kind);
                    askParts(it, i);
                }
            }
            return met;
        }

        private static int metAs(int own, int kind) {
            int alsoProduct = own == SQUARE && (kind == PRODUCT || kind == KINDS) ? 1 : 0;
            return (own == kind || kind == KINDS ? 1 : 0) + alsoProduct;
        }

        private void askParts(Formula it, int i) {
            int kind = it.kind(i);
            for (int which = 0; which < it.parts(i); which++) {
                int place = it.part(i, which);
                boolean passedBy = kind == PICK && which > 0 && which != (worthAt(i + 1) != 0 ? 1 : 2);
                if (place < NODES && !passedBy) {
                    asked[place] = true;
                }
            }
        }
    }

    /** Prints formulas with as few brackets as can be. */
    private static final class Printer {
        private static final int AS_ONE = 0, AS_POW = 1, AS_TERM = 2, AS_SUM = 3, AS_CHOICE = 4, PLACES = 5;
        /** The narrowest place where each kind stands without brackets. */
        private static final int[] STANDS = {AS_ONE, AS_ONE, AS_ONE, AS_SUM, AS_TERM, AS_POW, AS_CHOICE, AS_ONE};
        /** A number of 20 signs, or two signs; two brackets. */
        private static final int ROOM = 24 * NODES;
        private static final int TASKS = 8 * NODES;
        private static final int LONGEST = 20;

        private final byte[] bytes = new byte[ROOM];
        private int size;
        /** What is still to be printed, the last first: signs as they are below 0, else trees in places. */
        private final int[] tasks = new int[TASKS];
        private int waits;
        private final int[] digits = new int[LONGEST];

        int byteAt(int k) {
            return k >= 0 && k < size ? bytes[k] : 0;
        }

        /** How many bytes the formula has when it is printed. */
        int printed(Formula it) {
            size = 0;
            waits = 0;
            laterTree(0, AS_CHOICE);
            for (int i = 0; i < TASKS && waits > 0; i++) {
                waits--;
                int task = tasks[waits];
                if (task < 0) {
                    put(-task);
                } else {
                    putTree(it, task / PLACES, task % PLACES);
                }
            }
            return size;
        }

        private void put(int sign) {
            if (size < ROOM) {
                bytes[size] = (byte) sign;
                size++;
            }
        }

        private void later(int task) {
            if (waits < TASKS) {
                tasks[waits] = task;
                waits++;
            }
        }

        private void laterSign(int sign) {
            later(-sign);
        }

        private void laterTree(int i, int as) {
            later(i * PLACES + as);
        }

        private void putTree(Formula it, int i, int as) {
            int kind = it.kind(i);
            if (isKind(kind) && STANDS[kind] > as) {
                put('(');
                laterSign(')');
            }
            putOpenTree(it, i, kind);
        }

        private void putOpenTree(Formula it, int i, int kind) {
            switch (kind) {
                case NUMBER:
                    putNumber(it.number(i));
                    break;
                case NAME:
                    put('a' + (int) it.number(i));
                    break;
                case NEGATED:
                    put('-');
                    laterTree(i + 1, AS_ONE);
                    break;
                case SUM:
                    laterSecondOfSum(it, it.part(i, 1));
                    laterTree(i + 1, AS_SUM);
                    break;
                case PRODUCT:
                    laterTree(it.part(i, 1), AS_POW);
                    laterSign('*');
                    laterTree(i + 1, AS_TERM);
                    break;
                case POWER:
                    laterSign('0' + (int) it.number(i));
                    laterSign('^');
                    laterTree(i + 1, AS_POW);
                    break;
                case PICK:
                    laterTree(it.part(i, 2), AS_SUM);
                    laterSign(':');
                    laterTree(it.part(i, 1), AS_SUM);
                    laterSign('?');
                    laterTree(i + 1, AS_SUM);
                    break;
                default:
                    put('[');
                    laterSign(']');
                    laterTree(i + 1, AS_CHOICE);
                    break;
            }
        }

        private void laterSecondOfSum(Formula it, int second) {
            if (it.kind(second) == NEGATED) {
                laterTree(second + 1, AS_TERM);
                laterSign('-');
            } else {
                laterTree(second, AS_TERM);
                laterSign('+');
            }
        }

        private void putNumber(long v) {
            if (v < 0) {
                put('-');
            }
            long rest = v;
            int length = 0;
            for (int i = 0; i < LONGEST && (i == 0 || rest != 0); i++) {
                // The digit is made positive, not the number: the least long has no positive one.
                digits[i] = (int) Math.abs(rest % 10);
                rest /= 10;
                length = i + 1;
            }
            for (int i = length - 1; i >= 0; i--) {
                put('0' + digits[i]);
            }
        }
    }

    /** Makes code of formulas and runs it. */
    private static final class Machine {
        private static final int PUSH = 0, LOAD = 1, NEG = 2, ADD = 3, MUL = 4, POW = 5;
        private static final int JUMP_IF_0 = 6, JUMP = 7, TWICE = 8;
        /** A PICK and a SQUARE have two lines of their own, all others one. */
        private static final int LINES = 2 * NODES;

        private final int[] lines = new int[LINES];
        private final long[] pushed = new long[LINES];
        private int size;
        private final int[] lengths = new int[NODES];
        private final int[] starts = new int[NODES];
        private final long[] stack = new long[LINES];
        private int height;
        private int high;
        private int steps;

        int lineCount() {
            return size;
        }

        int lineAt(int k) {
            return k >= 0 && k < size ? lines[k] : 0;
        }

        int steps() {
            return steps;
        }

        int high() {
            return high;
        }

        void translate(Formula it) {
            for (int i = it.size() - 1; i >= 0; i--) {
                lengths[i] = lengthOf(it, i);
            }
            size = Math.min(LINES, lengths[0]);
            starts[0] = 0;
            for (int i = 0; i < it.size(); i++) {
                writeNode(it, i, starts[i], lengths[i]);
            }
        }

        private int lengthOf(Formula it, int i) {
            int kind = it.kind(i);
            int length = kind == PICK || kind == SQUARE ? 2 : 1;
            for (int which = 0; which < it.parts(i); which++) {
                length += lengthAt(it.part(i, which));
            }
            return length;
        }

        private int lengthAt(int i) {
            return i >= 0 && i < NODES ? lengths[i] : 0;
        }

        /** Lets a part begin at a line; the line behind it. */
        private int place(int i, int start) {
            if (i >= 0 && i < NODES) {
                starts[i] = start;
            }
            return start + lengthAt(i);
        }

        private void write(int line, int order, long more) {
            if (line >= 0 && line < LINES) {
                lines[line] = 10 * order + (order == PUSH ? 0 : (int) more);
                pushed[line] = more;
            }
        }

        private void writeNode(Formula it, int i, int start, int length) {
            int last = start + length - 1;
            switch (it.kind(i)) {
                case NUMBER:
                    write(last, PUSH, it.number(i));
                    break;
                case NAME:
                    write(last, LOAD, it.number(i));
                    break;
                case NEGATED:
                    place(i + 1, start);
                    write(last, NEG, 0);
                    break;
                case SUM:
                    place(it.part(i, 1), place(i + 1, start));
                    write(last, ADD, 0);
                    break;
                case PRODUCT:
                    place(it.part(i, 1), place(i + 1, start));
                    write(last, MUL, 0);
                    break;
                case POWER:
                    place(i + 1, start);
                    write(last, POW, it.number(i));
                    break;
                case PICK:
                    writePick(it, i, start, length);
                    break;
                default:
                    write(place(i + 1, start), TWICE, 0);
                    write(last, MUL, 0);
                    break;
            }
        }

        private void writePick(Formula it, int i, int start, int length) {
            int jumpIf0 = place(i + 1, start);
            int jump = place(it.part(i, 1), jumpIf0 + 1);
            place(it.part(i, 2), jump + 1);
            write(jumpIf0, JUMP_IF_0, 100 * (jump + 1));
            write(jump, JUMP, 100 * (start + length));
        }

        /** Runs the code; what lies on top when it is behind the last line. */
        long execute(int[] values) {
            height = 0;
            high = 0;
            steps = 0;
            int line = 0;
            // All jumps go on, so no line runs twice.
            while (steps < LINES && line >= 0 && line < size) {
                steps++;
                line = lineBehind(line, values);
            }
            return pop();
        }

        private void push(long v) {
            if (height < LINES) {
                stack[height] = v;
                height++;
                high = Math.max(high, height);
            }
        }

        private long pop() {
            if (height <= 0) {
                return 0;
            }
            height--;
            return stack[height];
        }

        private int lineBehind(int line, int[] values) {
            int number = lines[line];
            int order = number % 100 / 10;
            switch (order) {
                case PUSH:
                    push(pushed[line]);
                    break;
                case LOAD:
                    push(Valuer.valueOf(values, number % 10));
                    break;
                case POW:
                    push(Valuer.power(pop(), number % 10));
                    break;
                case JUMP_IF_0:
                    return pop() == 0 ? number / 100 : line + 1;
                case JUMP:
                    return number / 100;
                default:
                    calculate(order);
                    break;
            }
            return line + 1;
        }

        private void calculate(int order) {
            long top = pop();
            switch (order) {
                case NEG:
                    push(-top);
                    break;
                case ADD:
                    push(pop() + top);
                    break;
                case MUL:
                    push(pop() * top);
                    break;
                default:
                    push(top);
                    push(top);
                    break;
            }
        }
    }

    /** Measures formulas in six ways, and tells their degrees. */
    private static final class Gauge {
        private static final int SIZE = 0, DEPTH = 1, WORK = 2, REACH = 3, LAZY = 4, OPENED = 5;

        private final int[] told = new int[NODES];
        private final boolean[] named = new boolean[NODES];

        private int toldOf(int i) {
            return i >= 0 && i < NODES ? told[i] : 0;
        }

        int measureOf(Formula it, int measure) {
            for (int i = it.size() - 1; i >= 0; i--) {
                int all = joinedParts(it, i, measure) + own(it, i, measure);
                told[i] = Math.min(TOLD_AT_MOST, all);
            }
            return told[0];
        }

        private static int join(int measure, int a, int b) {
            return measure == DEPTH || measure == REACH ? Math.max(a, b) : a + b;
        }

        private static int own(Formula it, int i, int measure) {
            int kind = it.kind(i);
            if (measure == WORK || measure == LAZY) {
                if (kind == POWER) {
                    return (int) it.number(i);
                }
                return kind == PRODUCT || kind == SQUARE ? 3 : 1;
            }
            if (measure == REACH && kind == NEGATED) {
                return 0;
            }
            return measure == OPENED && kind == SQUARE ? 2 : 1;
        }

        private int joinedParts(Formula it, int i, int measure) {
            int kind = it.kind(i);
            int first = toldOf(i + 1);
            if (measure == LAZY && kind == PICK) {
                return join(measure, first, Math.max(toldOf(it.part(i, 1)), toldOf(it.part(i, 2))));
            }
            if (measure == OPENED && kind == SQUARE) {
                return 2 * first;
            }
            int all = 0;
            for (int which = 0; which < it.parts(i); which++) {
                all = join(measure, all, toldOf(it.part(i, which)));
            }
            return all;
        }

        int degreeOf(Formula it, int name) {
            for (int i = it.size() - 1; i >= 0; i--) {
                named[i] = hasName(it, i, name);
                told[i] = Math.min(TOLD_AT_MOST, nodeDegree(it, i, name));
            }
            return told[0];
        }

        private boolean namedAt(int i) {
            return i >= 0 && i < NODES && named[i];
        }

        private boolean hasName(Formula it, int i, int name) {
            boolean has = it.kind(i) == NAME && it.number(i) == name;
            for (int which = 0; which < it.parts(i); which++) {
                has = has || namedAt(it.part(i, which));
            }
            return has;
        }

        private boolean hasNoneOf(Formula it, int i) {
            for (int which = 0; which < it.parts(i); which++) {
                if (toldOf(it.part(i, which)) == NONE) {
                    return true;
                }
            }
            return false;
        }

        private int nodeDegree(Formula it, int i, int name) {
            if (hasNoneOf(it, i)) {
                return NONE;
            }
            int first = toldOf(i + 1);
            switch (it.kind(i)) {
                case NUMBER:
                    return 0;
                case NAME:
                    return it.number(i) == name ? 1 : 0;
                case NEGATED:
                    return first;
                case SUM:
                    return Math.max(first, toldOf(it.part(i, 1)));
                case PRODUCT:
                    return first + toldOf(it.part(i, 1));
                case POWER:
                    return (int) it.number(i) * first;
                case PICK:
                    return namedAt(i + 1) ? NONE : Math.max(toldOf(it.part(i, 1)), toldOf(it.part(i, 2)));
                default:
                    return 2 * first;
            }
        }
    }

    /** A row of shorts or of ints, or missing. */
    private static final class Sheet {
        private final int[] row = new int[SHEET_ROOM];
        private int sort = NONE;
        private int size;

        boolean isMissing() {
            return sort < 0;
        }

        int sort() {
            return sort;
        }

        int size() {
            return size;
        }

        void remove() {
            sort = NONE;
            size = 0;
        }

        void begin(int newSort, int n) {
            sort = newSort;
            size = Math.max(0, Math.min(SHEET_ROOM, n));
            for (int i = 0; i < size; i++) {
                row[i] = 0;
            }
        }

        int at(int i) {
            return i >= 0 && i < size ? row[i] : 0;
        }

        void set(int i, int v) {
            if (i >= 0 && i < size) {
                row[i] = sort == SHORTS ? (short) v : v;
            }
        }

        /** Whether n items stand from item i on; asked so that no sum wraps. */
        boolean holds(int i, int n) {
            return i >= 0 && n >= 0 && n <= size && i <= size - n;
        }

        void take(int j, Sheet from, int i, int n) {
            if (holds(j, n) && from.holds(i, n)) {
                System.arraycopy(from.row, i, row, j, n);
            }
        }
    }
}
