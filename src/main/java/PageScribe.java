/**
 * A small language of values on a stack that paints filled shapes on a page of pixels.
 *
 * Nothing is made while a text is done: every row is made with the object and used again. A failure is
 * a number that goes back from call to call, 0 being none, so that no exception is needed for it.
 */
public final class PageScribe {
    public static final int UNDERFLOW = 1, OVERFLOW = 2, TYPE = 3, RANGE = 4, UNDEFINED = 5, DIVIDED = 6, LIMIT = 7, FULL = 8;
    public static final int UNMATCHED = 9, INVALID = 10, NOLOOP = 11, NESTED = 12, NOPOINT = 13, STOPPED = 14, SYNTAX = 15, TIRED = 16;

    /** What exit answers on its way to its loop; no failure has this number. */
    private static final int LEFT = -1;

    private static final int KIND_INT = 0, KIND_REAL = 1, KIND_BOOLEAN = 2, KIND_NAME = 3;
    private static final int KIND_MARK = 4, KIND_ARRAY = 5, KIND_DICT = 6, KIND_SAVE = 7;
    private static final int LIVE = 8, LIVE_NAME = KIND_NAME + LIVE, LIVE_ARRAY = KIND_ARRAY + LIVE;
    private static final int KIND_BITS = 7;

    private static final int MOST_VALUES = 40, MOST_CELLS = 160, MOST_TEXT = 120, MOST_FUEL = 500;
    private static final int MOST_UNDER_WAY = 8, MOST_BRACES = 4, MOST_SAVES = 3, MOST_SCOPES = 6;
    private static final int MOST_WORDS = 40, MOST_LETTERS = 8, MOST_DIGITS = 9, MOST_DECIMALS = 4;
    private static final int DICTS = 7, FIRST_ROOM = 20, MOST_ROOM = 10;
    private static final int ENTRIES = FIRST_ROOM + (DICTS - 1) * MOST_ROOM;
    private static final int MOST_POINTS = 30, MOST_COLUMNS = 24, MOST_ROWS = 16;
    private static final long MOST_REAL = 1000000000000L, MOST_PLACE = 1000000L;

    /** The fuel ends each loop of the language long before this; it is here so that the bound can be seen. */
    private static final int MOST_TURNS = 1000000;

    /** An ARRAY's number holds its first cell and its LENGTH, which is never above 160. */
    private static final int LENGTHS = 256;

    private static final int ON_STACK = 0, ON_NUMBERS = 1, ON_TRUTHS = 2, ON_ARRAYS = 3;
    private static final int ON_DICTS = 4, ON_SAVES = 5, ON_PAGE = 6, ON_RUNS = 7;

    private static final Op[] OPERATORS = Op.values();

    private final Stack stack;
    private final Words words;
    private final Memory memory;
    private final Reader reader;
    private final Canvas canvas;
    private final Engine engine;

    public PageScribe(int columns, int rows) {
        stack = new Stack();
        words = new Words();
        memory = new Memory(stack);
        reader = new Reader(words, memory.store);
        canvas = new Canvas(stack, columns, rows);
        engine = new Engine(stack, memory, canvas);
    }

    public boolean write(long eight) {
        return reader.append(eight);
    }

    public int run(int fuel) throws IllegalArgumentException {
        if (fuel < 1 || fuel > MOST_FUEL) {
            throw new IllegalArgumentException("the fuel is not 1 to 500");
        }
        engine.begin(fuel);
        int end = 0;
        for (int token = 0; token < MOST_TEXT && end == 0 && reader.findToken(); token++) {
            end = reader.next();
            if (end == 0) {
                end = engine.doValue(reader.tokenKind, reader.tokenNumber, reader.tokenReal);
            }
        }
        reader.empty();
        engine.note(end);
        return end;
    }

    public int steps() {
        return engine.stepsDone;
    }

    public int fault() {
        return engine.latestFault;
    }

    public boolean feed(double v) {
        return v >= -MOST_REAL && v <= MOST_REAL && stack.push(KIND_REAL, 0, v) == 0;
    }

    public int depth() {
        return stack.size;
    }

    public int kind(int k) throws IndexOutOfBoundsException {
        if (!stack.hasDown(k)) {
            throw new IndexOutOfBoundsException("there is no such VALUE");
        }
        return stack.kindDown(k);
    }

    public int number(int k) throws IndexOutOfBoundsException, IllegalStateException {
        if (!stack.hasDown(k)) {
            throw new IndexOutOfBoundsException("there is no such VALUE");
        }
        int told = stack.numberDown(k);
        switch (stack.kindDown(k) & KIND_BITS) {
            case KIND_REAL:
                throw new IllegalStateException("a REAL has no number");
            case KIND_NAME:
                return words.lengthOf(told);
            case KIND_ARRAY:
                return lengthOf(told);
            default:
                return told;
        }
    }

    public double real(int k) throws IndexOutOfBoundsException, IllegalStateException {
        if (!stack.hasDown(k)) {
            throw new IndexOutOfBoundsException("there is no such VALUE");
        }
        if (stack.kindDown(k) > KIND_REAL) {
            throw new IllegalStateException("no number");
        }
        return stack.doubleDown(k);
    }

    public int letter(int k, int i) {
        if (!stack.hasDown(k) || (stack.kindDown(k) & KIND_BITS) != KIND_NAME) {
            return -1;
        }
        return words.letterOf(stack.numberDown(k), i);
    }

    public int used(int which) {
        switch (which) {
            case 0:
                return memory.store.cells.size;
            case 1:
                return memory.store.dictsMade();
            case 2:
                return memory.scopeCount;
            case 3:
                return memory.openSaves;
            case 4:
                return canvas.points;
            case 5:
                return words.count;
            case 6:
                return reader.length;
            default:
                return -1;
        }
    }

    public int pixel(int column, int row) {
        return canvas.levelAt(column, row);
    }

    public int page() {
        return canvas.wipe();
    }

    private static int arrayOf(int first, int length) {
        return first * LENGTHS + length;
    }

    private static int firstOf(int array) {
        return array / LENGTHS;
    }

    private static int lengthOf(int array) {
        return array % LENGTHS;
    }

    /** The cell behind the last one of an ARRAY; 0 for one without cells, which lies nowhere. */
    private static int endOf(int array) {
        int length = array % LENGTHS;
        return length == 0 ? 0 : array / LENGTHS + length;
    }

    /**
     * The operators. What one takes is told by letters, the top VALUE last, with | between two ways:
     * x any VALUE, i an INT, n a number, b a BOOLEAN, w a NAME, a an ARRAY, p a LIVE ARRAY, d a DICT, s a SAVE.
     */
    private enum Op {
        POP("pop", "x", ON_STACK), EXCH("exch", "xx", ON_STACK), DUP("dup", "x", ON_STACK),
        COPY("copy", "i", ON_STACK), INDEX("index", "i", ON_STACK), ROLL("roll", "ii", ON_STACK),
        CLEAR("clear", "", ON_STACK), COUNT("count", "", ON_STACK), MARK("mark", "", ON_STACK),
        OPEN("[", "", ON_STACK), CLEARTOMARK("cleartomark", "", ON_STACK), CLOSE("]", "", ON_ARRAYS),

        ADD("add", "nn", ON_NUMBERS), SUB("sub", "nn", ON_NUMBERS), MUL("mul", "nn", ON_NUMBERS),
        DIV("div", "nn", ON_NUMBERS), IDIV("idiv", "ii", ON_NUMBERS), MOD("mod", "ii", ON_NUMBERS),
        NEG("neg", "n", ON_NUMBERS), FLOOR("floor", "n", ON_NUMBERS), ROUND("round", "n", ON_NUMBERS),
        CVI("cvi", "n", ON_NUMBERS), CVR("cvr", "n", ON_NUMBERS), BITSHIFT("bitshift", "ii", ON_NUMBERS),

        TRUE("true", "", ON_TRUTHS), FALSE("false", "", ON_TRUTHS), EQ("eq", "xx", ON_TRUTHS),
        NE("ne", "xx", ON_TRUTHS), GT("gt", "nn", ON_TRUTHS), GE("ge", "nn", ON_TRUTHS),
        LT("lt", "nn", ON_TRUTHS), LE("le", "nn", ON_TRUTHS), AND("and", "bb|ii", ON_TRUTHS),
        OR("or", "bb|ii", ON_TRUTHS), NOT("not", "b|i", ON_TRUTHS), CVX("cvx", "x", ON_TRUTHS),
        CVLIT("cvlit", "x", ON_TRUTHS), XCHECK("xcheck", "x", ON_TRUTHS), KIND("kind", "x", ON_TRUTHS),

        ARRAY("array", "i", ON_ARRAYS), LENGTH("length", "a|d", ON_ARRAYS), GET("get", "ai|dw", ON_ARRAYS),
        PUT("put", "aix|dwx", ON_ARRAYS), GETINTERVAL("getinterval", "aii", ON_ARRAYS), ALOAD("aload", "a", ON_ARRAYS),

        DICT("dict", "i", ON_DICTS), BEGIN("begin", "d", ON_DICTS), END("end", "", ON_DICTS),
        DEF("def", "wx", ON_DICTS), LOAD("load", "w", ON_DICTS), KNOWN("known", "dw", ON_DICTS),
        CURRENTDICT("currentdict", "", ON_DICTS),

        EXEC("exec", "x", ON_RUNS), IF("if", "bp", ON_RUNS), IFELSE("ifelse", "bpp", ON_RUNS),
        FOR("for", "iiip", ON_RUNS), REPEAT("repeat", "ip", ON_RUNS), LOOP("loop", "p", ON_RUNS),
        FORALL("forall", "ap", ON_RUNS), EXIT("exit", "", ON_RUNS), STOP("stop", "", ON_RUNS),
        CATCH("stopped", "x", ON_RUNS), FAULT("fault", "", ON_RUNS),

        SAVE("save", "", ON_SAVES), RESTORE("restore", "s", ON_SAVES),

        SETGRAY("setgray", "n", ON_PAGE), NEWPATH("newpath", "", ON_PAGE), MOVETO("moveto", "nn", ON_PAGE),
        LINETO("lineto", "nn", ON_PAGE), CLOSEPATH("closepath", "", ON_PAGE), FILL("fill", "", ON_PAGE),
        EOFILL("eofill", "", ON_PAGE);

        final String word;
        final String takes;
        final int group;

        Op(String word, String takes, int group) {
            this.word = word;
            this.takes = takes;
            this.group = group;
        }
    }

    /** Places for VALUES, side by side; where they are pushed, the first `size` of them are in use. */
    private static class Row {
        final int[] kinds;
        final int[] numbers;
        final double[] reals;
        int size = 0;

        Row(int room) {
            kinds = new int[room];
            numbers = new int[room];
            reals = new double[room];
        }

        final int kindAt(int i) {
            return i >= 0 && i < kinds.length ? kinds[i] : KIND_INT;
        }

        final int numberAt(int i) {
            return i >= 0 && i < numbers.length ? numbers[i] : 0;
        }

        final double realAt(int i) {
            return i >= 0 && i < reals.length ? reals[i] : 0.0;
        }

        final void put(int i, int kind, int number, double real) {
            if (i >= 0 && i < kinds.length) {
                kinds[i] = kind;
                numbers[i] = number;
                reals[i] = real;
            }
        }

        final int push(int kind, int number, double real) {
            if (size < 0 || size >= kinds.length) {
                return OVERFLOW;
            }
            kinds[size] = kind;
            numbers[size] = number;
            reals[size] = real;
            size++;
            return 0;
        }

        final int pushFrom(Row from, int i) {
            return push(from.kindAt(i), from.numberAt(i), from.realAt(i));
        }

        final void drop(int n) {
            size = Math.max(0, size - n);
        }

        final void become(Row other) {
            int n = Math.min(kinds.length, other.kinds.length);
            System.arraycopy(other.kinds, 0, kinds, 0, n);
            System.arraycopy(other.numbers, 0, numbers, 0, n);
            System.arraycopy(other.reals, 0, reals, 0, n);
            size = other.size;
        }
    }

    /** The STACK, whose VALUES are told from the top down here, and the operators that only move them. */
    private static final class Stack extends Row {
        Stack() {
            super(MOST_VALUES);
        }

        boolean hasDown(int k) {
            return k >= 0 && k < size;
        }

        int kindDown(int k) {
            return kindAt(size - 1 - k);
        }

        int numberDown(int k) {
            return numberAt(size - 1 - k);
        }

        double realDown(int k) {
            return realAt(size - 1 - k);
        }

        /** A number of either kind; each INT is a double exactly. */
        double doubleDown(int k) {
            return kindDown(k) == KIND_INT ? (double) numberDown(k) : realDown(k);
        }

        int pushInt(int n) {
            return push(KIND_INT, n, 0.0);
        }

        int pushFlag(boolean flag) {
            return push(KIND_BOOLEAN, flag ? 1 : 0, 0.0);
        }

        int giveInt(int taken, int n) {
            drop(taken);
            return push(KIND_INT, n, 0.0);
        }

        int giveFlag(int taken, boolean flag) {
            drop(taken);
            return push(KIND_BOOLEAN, flag ? 1 : 0, 0.0);
        }

        /** UNDERFLOW and TYPE, which come before all else that an operator may fail with. */
        int check(String takes) {
            int bar = takes.indexOf('|');
            int n = bar < 0 ? takes.length() : bar;
            if (size < n) {
                return UNDERFLOW;
            }
            for (int from = 0; from + n <= takes.length(); from += n + 1) {
                if (fits(takes, from, n)) {
                    return 0;
                }
            }
            return TYPE;
        }

        private boolean fits(String takes, int from, int n) {
            for (int i = 0; i < n; i++) {
                if (!isOne(kindDown(n - 1 - i), takes.charAt(from + i))) {
                    return false;
                }
            }
            return true;
        }

        private static boolean isOne(int kind, char sort) {
            switch (sort) {
                case 'i':
                    return kind == KIND_INT;
                case 'n':
                    return kind == KIND_INT || kind == KIND_REAL;
                case 'b':
                    return kind == KIND_BOOLEAN;
                case 'w':
                    return (kind & KIND_BITS) == KIND_NAME;
                case 'a':
                    return (kind & KIND_BITS) == KIND_ARRAY;
                case 'p':
                    return kind == LIVE_ARRAY;
                case 'd':
                    return kind == KIND_DICT;
                case 's':
                    return kind == KIND_SAVE;
                default:
                    return true;
            }
        }

        int shuffle(Op op) {
            switch (op) {
                case POP:
                    drop(1);
                    return 0;
                case EXCH:
                    swap(size - 1, size - 2);
                    return 0;
                case DUP:
                    return pushFrom(this, size - 1);
                case COPY:
                    return copyBelow();
                case INDEX:
                    return pickBelow();
                case ROLL:
                    return roll();
                case CLEAR:
                    size = 0;
                    return 0;
                case COUNT:
                    return pushInt(size);
                case CLEARTOMARK:
                    return clearToMark();
                default:
                    return push(KIND_MARK, 0, 0.0);
            }
        }

        private int copyBelow() {
            int n = numberDown(0);
            if (n < 0 || n > size - 1) {
                return RANGE;
            }
            if (size - 1 + n > MOST_VALUES) {
                return OVERFLOW;
            }
            drop(1);
            int first = size - n;
            for (int i = 0; i < n; i++) {
                pushFrom(this, first + i);
            }
            return 0;
        }

        private int pickBelow() {
            int n = numberDown(0);
            if (n < 0 || n >= size - 1) {
                return RANGE;
            }
            drop(1);
            return pushFrom(this, size - 1 - n);
        }

        private int roll() {
            int n = numberDown(1);
            int j = numberDown(0);
            if (n < 0 || n > size - 2) {
                return RANGE;
            }
            drop(2);
            if (n > 0) {
                int first = size - n;
                int up = Math.floorMod(j, n);
                reverse(first, size - 1);
                reverse(first, first + up - 1);
                reverse(first + up, size - 1);
            }
            return 0;
        }

        private void reverse(int from, int to) {
            int i = from;
            int j = to;
            while (i < j) {
                swap(i, j);
                i++;
                j--;
            }
        }

        private void swap(int i, int j) {
            int kind = kindAt(i);
            int number = numberAt(i);
            double real = realAt(i);
            put(i, kindAt(j), numberAt(j), realAt(j));
            put(j, kind, number, real);
        }

        private int clearToMark() {
            int above = aboveMark();
            if (above < 0) {
                return UNMATCHED;
            }
            drop(above + 1);
            return 0;
        }

        /** How many VALUES are above the topmost MARK; -1 if there is none. */
        int aboveMark() {
            for (int k = 0; k < size; k++) {
                if (kindDown(k) == KIND_MARK) {
                    return k;
                }
            }
            return -1;
        }
    }

    /** The WORDS behind the NAMES: first the operators' own, by their place in OPERATORS, then the KNOWN ones. */
    private static final class Words {
        final char[] letters = new char[MOST_WORDS * MOST_LETTERS];
        final int[] lengths = new int[MOST_WORDS];
        int count = 0;

        /** The NAME of the n characters there, -1 if they are none yet. */
        int find(char[] text, int from, int n) {
            if (from < 0 || n < 0 || n > text.length - from) {
                return -1;
            }
            for (int i = 0; i < OPERATORS.length; i++) {
                if (isWord(OPERATORS[i].word, text, from, n)) {
                    return i;
                }
            }
            for (int w = 0; w < count; w++) {
                if (isKnown(w, text, from, n)) {
                    return OPERATORS.length + w;
                }
            }
            return -1;
        }

        private boolean isWord(String word, char[] text, int from, int n) {
            if (word.length() != n) {
                return false;
            }
            for (int i = 0; i < n; i++) {
                if (word.charAt(i) != text[from + i]) {
                    return false;
                }
            }
            return true;
        }

        private boolean isKnown(int w, char[] text, int from, int n) {
            if (lengths[w] != n) {
                return false;
            }
            for (int i = 0; i < n; i++) {
                if (letters[w * MOST_LETTERS + i] != text[from + i]) {
                    return false;
                }
            }
            return true;
        }

        /** The NAME of a WORD that is KNOWN from now on, -1 if it would be one too many. */
        int learn(char[] text, int from, int n) {
            if (count >= MOST_WORDS || n > MOST_LETTERS || from < 0 || n > text.length - from) {
                return -1;
            }
            for (int i = 0; i < n; i++) {
                letters[count * MOST_LETTERS + i] = text[from + i];
            }
            lengths[count] = n;
            count++;
            return OPERATORS.length + count - 1;
        }

        int lengthOf(int name) {
            if (name >= 0 && name < OPERATORS.length) {
                return OPERATORS[name].word.length();
            }
            int w = name - OPERATORS.length;
            return w >= 0 && w < count ? lengths[w] : 0;
        }

        int letterOf(int name, int i) {
            if (i < 0 || i >= lengthOf(name)) {
                return -1;
            }
            if (name < OPERATORS.length) {
                return OPERATORS[name].word.charAt(i);
            }
            return letters[(name - OPERATORS.length) * MOST_LETTERS + i];
        }
    }

    /** The text, and its TOKENS one by one. */
    private static final class Reader {
        final Words words;
        final Store store;
        final char[] text = new char[MOST_TEXT];
        int length = 0;
        int place = 0;
        int tokenKind = 0;
        int tokenNumber = 0;
        double tokenReal = 0.0;
        /** The VALUES of the PROCEDURES that are open, and where those of each begin. */
        final Row gathered = new Row(MOST_TEXT);
        final int[] begins = new int[MOST_BRACES];

        Reader(Words words, Store store) {
            this.words = words;
            this.store = store;
        }

        boolean append(long eight) {
            int more = 0;
            for (int shift = 56; shift >= 0; shift -= 8) {
                int one = (int) (eight >>> shift) & 255;
                if (one != 0 && (one < 32 || one > 126)) {
                    return false;
                }
                more += one == 0 ? 0 : 1;
            }
            if (length + more > MOST_TEXT) {
                return false;
            }
            for (int shift = 56; shift >= 0; shift -= 8) {
                int one = (int) (eight >>> shift) & 255;
                if (one != 0 && length < MOST_TEXT) {
                    text[length] = (char) one;
                    length++;
                }
            }
            return true;
        }

        void empty() {
            length = 0;
            place = 0;
        }

        /** Goes on to where the next TOKEN begins; false if only blanks are left. */
        boolean findToken() {
            while (place < length && text[place] == ' ') {
                place++;
            }
            return place < length;
        }

        /** The character there; 0, which is in no text, behind its end. */
        private char charAt(int p) {
            return p >= 0 && p < length ? text[p] : (char) 0;
        }

        /** Reads the TOKEN at this place: 0, or the failure. */
        int next() {
            return charAt(place) == '{' ? readProcedure() : readPlain();
        }

        private int readProcedure() {
            int open = 0;
            gathered.size = 0;
            for (int i = 0; i < MOST_TEXT && findToken(); i++) {
                char c = charAt(place);
                if (c == '{') {
                    if (open >= MOST_BRACES) {
                        return NESTED;
                    }
                    begins[open] = gathered.size;
                    open++;
                    place++;
                } else {
                    open -= c == '}' ? 1 : 0;
                    int end = c == '}' ? makeProcedure(open) : readPlain();
                    if (end != 0 || open == 0) {
                        return end;
                    }
                    gathered.push(tokenKind, tokenNumber, tokenReal);
                }
            }
            return SYNTAX;
        }

        /** Makes the PROCEDURE whose } stands here; so many { are open round it. */
        private int makeProcedure(int open) {
            int begin = open >= 0 && open < MOST_BRACES ? begins[open] : 0;
            int array = store.newArray(gathered, begin, gathered.size - begin);
            if (array < 0) {
                return LIMIT;
            }
            gathered.size = begin;
            place++;
            giveToken(LIVE_ARRAY, array, 0.0);
            return 0;
        }

        private void giveToken(int kind, int number, double real) {
            tokenKind = kind;
            tokenNumber = number;
            tokenReal = real;
        }

        private int readPlain() {
            char c = charAt(place);
            if (c == '-' || isDigit(c)) {
                return readNumber();
            }
            if (c == '/') {
                return readName(KIND_NAME, place + 1, lettersFrom(place + 1));
            }
            if (c == '[' || c == ']') {
                return readName(LIVE_NAME, place, 1);
            }
            return readName(LIVE_NAME, place, lettersFrom(place));
        }

        private int readName(int kind, int from, int n) {
            int name = words.find(text, from, n);
            if (n == 0 || name < 0 && n > MOST_LETTERS) {
                return SYNTAX;
            }
            if (name < 0) {
                name = words.learn(text, from, n);
            }
            if (name < 0) {
                return LIMIT;
            }
            giveToken(kind, name, 0.0);
            place = from + n;
            return 0;
        }

        private int readNumber() {
            boolean less = charAt(place) == '-';
            int from = less ? place + 1 : place;
            int n = digitsFrom(from);
            if (n == 0 || n > MOST_DIGITS) {
                return SYNTAX;
            }
            int whole = valueOf(from, n);
            int point = from + n;
            int decimals = charAt(point) == '.' ? digitsFrom(point + 1) : 0;
            if (decimals > MOST_DECIMALS) {
                return SYNTAX;
            }
            if (decimals == 0) {
                place = point;
                giveToken(KIND_INT, less ? -whole : whole, 0.0);
                return 0;
            }
            place = point + 1 + decimals;
            double v = (double) whole + (double) valueOf(point + 1, decimals) / scaleOf(decimals);
            giveToken(KIND_REAL, 0, less ? 0.0 - v : v);
            return 0;
        }

        private static double scaleOf(int decimals) {
            switch (decimals) {
                case 1:
                    return 10.0;
                case 2:
                    return 100.0;
                case 3:
                    return 1000.0;
                default:
                    return 10000.0;
            }
        }

        private static boolean isDigit(char c) {
            return c >= '0' && c <= '9';
        }

        private int digitsFrom(int from) {
            int p = from;
            while (p < length && isDigit(charAt(p))) {
                p++;
            }
            return p - from;
        }

        private int lettersFrom(int from) {
            int p = from;
            while (p < length && charAt(p) >= 'a' && charAt(p) <= 'z') {
                p++;
            }
            return p - from;
        }

        private int valueOf(int from, int n) {
            int value = 0;
            for (int p = from; p < from + n; p++) {
                value = value * 10 + (charAt(p) - '0');
            }
            return value;
        }
    }

    /** The operators that work numbers out. */
    private static final class Sums {
        final Stack stack;

        Sums(Stack stack) {
            this.stack = stack;
        }

        int act(Op op) {
            switch (op) {
                case DIV:
                    return divide();
                case IDIV:
                case MOD:
                    return divideInts(op == Op.IDIV);
                case NEG:
                    return negate();
                case FLOOR:
                    return wholeBelow(0.0);
                case ROUND:
                    return wholeBelow(0.5);
                case CVI:
                    return cut();
                case CVR:
                    return giveReal(1, stack.doubleDown(0));
                case BITSHIFT:
                    return shift();
                default:
                    return combine(op);
            }
        }

        private int giveReal(int taken, double v) {
            if (v > MOST_REAL || v < -MOST_REAL) {
                return RANGE;
            }
            stack.drop(taken);
            return stack.push(KIND_REAL, 0, v);
        }

        private int giveExact(int taken, long v) {
            return v == (int) v ? stack.giveInt(taken, (int) v) : giveReal(taken, (double) v);
        }

        private int combine(Op op) {
            if (stack.kindDown(1) == KIND_INT && stack.kindDown(0) == KIND_INT) {
                long a = stack.numberDown(1);
                long b = stack.numberDown(0);
                return giveExact(2, op == Op.ADD ? a + b : op == Op.SUB ? a - b : a * b);
            }
            double a = stack.doubleDown(1);
            double b = stack.doubleDown(0);
            return giveReal(2, op == Op.ADD ? a + b : op == Op.SUB ? a - b : a * b);
        }

        private int divide() {
            double b = stack.doubleDown(0);
            return b == 0.0 ? DIVIDED : giveReal(2, stack.doubleDown(1) / b);
        }

        private int divideInts(boolean quotient) {
            long i = stack.numberDown(1);
            long j = stack.numberDown(0);
            if (j == 0) {
                return DIVIDED;
            }
            return giveExact(2, quotient ? i / j : i % j);
        }

        private int negate() {
            if (stack.kindDown(0) == KIND_INT) {
                return giveExact(1, 0L - stack.numberDown(0));
            }
            return giveReal(1, 0.0 - stack.realDown(0));
        }

        private int wholeBelow(double more) {
            if (stack.kindDown(0) == KIND_INT) {
                return 0;
            }
            double v = stack.realDown(0) + more;
            long whole = (long) v;
            return giveReal(1, (double) ((double) whole > v ? whole - 1 : whole));
        }

        private int cut() {
            long whole = (long) stack.doubleDown(0);
            return whole == (int) whole ? stack.giveInt(1, (int) whole) : RANGE;
        }

        private int shift() {
            int n = stack.numberDown(1);
            int j = stack.numberDown(0);
            if (j > 31 || j < -31) {
                return stack.giveInt(2, 0);
            }
            return stack.giveInt(2, j >= 0 ? n << j : n >>> -j);
        }
    }

    /** The operators that compare, join and tell of VALUES. */
    private static final class Truths {
        final Stack stack;

        Truths(Stack stack) {
            this.stack = stack;
        }

        int act(Op op) {
            switch (op) {
                case TRUE:
                case FALSE:
                    return stack.pushFlag(op == Op.TRUE);
                case EQ:
                case NE:
                    return stack.giveFlag(2, alike() == (op == Op.EQ));
                case AND:
                case OR:
                    return join(op == Op.AND);
                case NOT:
                    return turnRound();
                case CVX:
                case CVLIT:
                    return setLive(op == Op.CVX);
                case XCHECK:
                    return stack.giveFlag(1, stack.kindDown(0) >= LIVE);
                case KIND:
                    return stack.giveInt(1, stack.kindDown(0) & KIND_BITS);
                default:
                    return stack.giveFlag(2, compare(op, stack.doubleDown(1), stack.doubleDown(0)));
            }
        }

        private boolean alike() {
            int kind = stack.kindDown(1) & KIND_BITS;
            int other = stack.kindDown(0) & KIND_BITS;
            if (kind <= KIND_REAL && other <= KIND_REAL) {
                return stack.doubleDown(1) == stack.doubleDown(0);
            }
            if (kind != other) {
                return false;
            }
            int a = stack.numberDown(1);
            int b = stack.numberDown(0);
            return a == b || kind == KIND_ARRAY && lengthOf(a) == 0 && lengthOf(b) == 0;
        }

        private boolean compare(Op op, double a, double b) {
            switch (op) {
                case GT:
                    return a > b;
                case GE:
                    return a >= b;
                case LT:
                    return a < b;
                default:
                    return a <= b;
            }
        }

        /** The number of a BOOLEAN is 1 or 0, so that its bits are joined like an INT's. */
        private int join(boolean both) {
            int kind = stack.kindDown(0);
            int a = stack.numberDown(1);
            int b = stack.numberDown(0);
            stack.drop(2);
            return stack.push(kind, both ? a & b : a | b, 0.0);
        }

        private int turnRound() {
            int a = stack.numberDown(0);
            if (stack.kindDown(0) == KIND_BOOLEAN) {
                return stack.giveFlag(1, a == 0);
            }
            return stack.giveInt(1, ~a);
        }

        private int setLive(boolean live) {
            int kind = stack.kindDown(0) & KIND_BITS;
            int number = stack.numberDown(0);
            if (kind == KIND_NAME || kind == KIND_ARRAY) {
                stack.drop(1);
                return stack.push(live ? kind + LIVE : kind, number, 0.0);
            }
            return 0;
        }
    }

    /** The cells and the DICTS: all that a save keeps, so that a save is one more of these. */
    private static final class Store {
        /** Its size is the number of cells TAKEN. */
        final Row cells = new Row(MOST_CELLS);
        /** The ROOM of each DICT, 0 for one that is not there. */
        final int[] rooms = new int[DICTS];
        final int[] counts = new int[DICTS];
        final int[] names = new int[ENTRIES];
        final Row values = new Row(ENTRIES);

        Store() {
            rooms[0] = FIRST_ROOM;
        }

        void become(Store other) {
            cells.become(other.cells);
            values.become(other.values);
            System.arraycopy(other.rooms, 0, rooms, 0, DICTS);
            System.arraycopy(other.counts, 0, counts, 0, DICTS);
            System.arraycopy(other.names, 0, names, 0, ENTRIES);
        }

        boolean hasCells(int n) {
            return n <= MOST_CELLS - cells.size;
        }

        /** A NEW ARRAY of n VALUES of a row, from one place on; -1 if there are not so many cells. */
        int newArray(Row from, int at, int n) {
            if (!hasCells(n)) {
                return -1;
            }
            int first = cells.size;
            for (int i = 0; i < n; i++) {
                cells.pushFrom(from, at + i);
            }
            return arrayOf(first, n);
        }

        int dictsMade() {
            int made = 0;
            for (int d = 1; d < DICTS; d++) {
                made += rooms[d] > 0 ? 1 : 0;
            }
            return made;
        }

        boolean hasDict(int dict) {
            return dict >= 0 && dict < DICTS && rooms[dict] > 0;
        }

        /** The least number that is free, -1 if none is. */
        int newDict(int room) {
            for (int d = 1; d < DICTS; d++) {
                if (rooms[d] == 0) {
                    rooms[d] = room;
                    counts[d] = 0;
                    return d;
                }
            }
            return -1;
        }

        int countOf(int dict) {
            return hasDict(dict) ? counts[dict] : 0;
        }

        private static int firstEntry(int dict) {
            return dict == 0 ? 0 : FIRST_ROOM + (dict - 1) * MOST_ROOM;
        }

        /** The place of the ENTRY of that NAME, -1 if the DICT has none. */
        int find(int dict, int name) {
            if (!hasDict(dict)) {
                return -1;
            }
            int first = firstEntry(dict);
            for (int i = 0; i < counts[dict]; i++) {
                if (names[first + i] == name) {
                    return first + i;
                }
            }
            return -1;
        }

        /** Changes or makes the ENTRY, its VALUE taken from a row: 0 or FULL. */
        int define(int dict, int name, Row from, int at) {
            int entry = find(dict, name);
            if (entry < 0) {
                if (!hasDict(dict) || counts[dict] >= rooms[dict]) {
                    return FULL;
                }
                entry = firstEntry(dict) + counts[dict];
                names[entry] = name;
                counts[dict]++;
            }
            values.put(entry, from.kindAt(at), from.numberAt(at), from.realAt(at));
            return 0;
        }
    }

    /** The operators of arrays, DICTS, the DICT STACK and saves. */
    private static final class Memory {
        final Stack stack;
        final Store store = new Store();
        final int[] scopes = new int[MOST_SCOPES];
        int scopeCount = 1;
        final Store[] kept = new Store[MOST_SAVES];
        final int[] keptNumbers = new int[MOST_SAVES];
        int openSaves = 0;
        int savesMade = 0;

        Memory(Stack stack) {
            this.stack = stack;
            for (int i = 0; i < MOST_SAVES; i++) {
                kept[i] = new Store();
            }
        }

        int actOnArrays(Op op) {
            switch (op) {
                case CLOSE:
                    return gather();
                case ARRAY:
                    return makeArray();
                case LENGTH:
                    return tellLength();
                case GET:
                    return stack.kindDown(1) == KIND_DICT ? getEntry() : getCell();
                case PUT:
                    return stack.kindDown(2) == KIND_DICT ? putEntry() : putCell();
                case GETINTERVAL:
                    return getInterval();
                default:
                    return unpack();
            }
        }

        private int gather() {
            int n = stack.aboveMark();
            if (n < 0) {
                return UNMATCHED;
            }
            int array = store.newArray(stack, stack.size - n, n);
            if (array < 0) {
                return LIMIT;
            }
            stack.drop(n + 1);
            return stack.push(KIND_ARRAY, array, 0.0);
        }

        private int makeArray() {
            int n = stack.numberDown(0);
            if (n < 0) {
                return RANGE;
            }
            if (!store.hasCells(n)) {
                return LIMIT;
            }
            int first = store.cells.size;
            for (int i = 0; i < n; i++) {
                store.cells.push(KIND_INT, 0, 0.0);
            }
            stack.drop(1);
            return stack.push(KIND_ARRAY, arrayOf(first, n), 0.0);
        }

        private int tellLength() {
            int number = stack.numberDown(0);
            return stack.giveInt(1, stack.kindDown(0) == KIND_DICT ? store.countOf(number) : lengthOf(number));
        }

        private int getCell() {
            int array = stack.numberDown(1);
            int i = stack.numberDown(0);
            if (i < 0 || i >= lengthOf(array)) {
                return RANGE;
            }
            stack.drop(2);
            return stack.pushFrom(store.cells, firstOf(array) + i);
        }

        private int getEntry() {
            int entry = store.find(stack.numberDown(1), stack.numberDown(0));
            if (entry < 0) {
                return UNDEFINED;
            }
            stack.drop(2);
            return stack.pushFrom(store.values, entry);
        }

        private int putCell() {
            int array = stack.numberDown(2);
            int i = stack.numberDown(1);
            if (i < 0 || i >= lengthOf(array)) {
                return RANGE;
            }
            store.cells.put(firstOf(array) + i, stack.kindDown(0), stack.numberDown(0), stack.realDown(0));
            stack.drop(3);
            return 0;
        }

        private int putEntry() {
            int end = store.define(stack.numberDown(2), stack.numberDown(1), stack, stack.size - 1);
            if (end == 0) {
                stack.drop(3);
            }
            return end;
        }

        private int getInterval() {
            int kind = stack.kindDown(2);
            int array = stack.numberDown(2);
            int i = stack.numberDown(1);
            int n = stack.numberDown(0);
            if (i < 0 || n < 0 || i > lengthOf(array) || n > lengthOf(array) - i) {
                return RANGE;
            }
            stack.drop(3);
            return stack.push(kind, arrayOf(firstOf(array) + i, n), 0.0);
        }

        private int unpack() {
            int kind = stack.kindDown(0);
            int array = stack.numberDown(0);
            int n = lengthOf(array);
            if (stack.size + n > MOST_VALUES) {
                return OVERFLOW;
            }
            stack.drop(1);
            for (int i = 0; i < n; i++) {
                stack.pushFrom(store.cells, firstOf(array) + i);
            }
            return stack.push(kind, array, 0.0);
        }

        int actOnDicts(Op op) {
            switch (op) {
                case DICT:
                    return makeDict();
                case BEGIN:
                    return beginScope();
                case END:
                    return endScope();
                case DEF:
                    return define();
                case LOAD:
                    return load();
                case KNOWN:
                    return stack.giveFlag(2, store.find(stack.numberDown(1), stack.numberDown(0)) >= 0);
                default:
                    return stack.push(KIND_DICT, scopeAt(scopeCount - 1), 0.0);
            }
        }

        private int makeDict() {
            int room = stack.numberDown(0);
            if (room < 1 || room > MOST_ROOM) {
                return RANGE;
            }
            int dict = store.newDict(room);
            if (dict < 0) {
                return LIMIT;
            }
            stack.drop(1);
            return stack.push(KIND_DICT, dict, 0.0);
        }

        private int beginScope() {
            if (scopeCount < 0 || scopeCount >= MOST_SCOPES) {
                return LIMIT;
            }
            scopes[scopeCount] = stack.numberDown(0);
            scopeCount++;
            stack.drop(1);
            return 0;
        }

        private int endScope() {
            if (scopeCount <= 1) {
                return UNMATCHED;
            }
            scopeCount--;
            return 0;
        }

        private int scopeAt(int i) {
            return i >= 0 && i < MOST_SCOPES ? scopes[i] : 0;
        }

        private int define() {
            int end = store.define(scopeAt(scopeCount - 1), stack.numberDown(1), stack, stack.size - 1);
            if (end == 0) {
                stack.drop(2);
            }
            return end;
        }

        private int load() {
            int entry = lookUp(stack.numberDown(0));
            if (entry < 0) {
                return UNDEFINED;
            }
            stack.drop(1);
            return stack.pushFrom(store.values, entry);
        }

        /** The ENTRY of that NAME in the first DICT that has it, from the top of the DICT STACK down; -1 for none. */
        int lookUp(int name) {
            for (int i = scopeCount - 1; i >= 0; i--) {
                int entry = store.find(scopeAt(i), name);
                if (entry >= 0) {
                    return entry;
                }
            }
            return -1;
        }

        int save() {
            Store copy = keptAt(openSaves);
            if (copy == null) {
                return LIMIT;
            }
            int end = stack.push(KIND_SAVE, savesMade + 1, 0.0);
            if (end != 0) {
                return end;
            }
            savesMade++;
            keptNumbers[openSaves] = savesMade;
            copy.become(store);
            openSaves++;
            return 0;
        }

        /** The cells that are UNDER WAY all lie before cell `reach`. */
        int restore(int reach) {
            int number = stack.numberDown(0);
            int slot = slotOf(number);
            Store then = keptAt(slot);
            if (then == null || reach > then.cells.size || scopesMadeSince(then) || stackMadeSince(then, number)) {
                return INVALID;
            }
            store.become(then);
            openSaves = slot;
            stack.drop(1);
            return 0;
        }

        /** What the SAVE in that slot keeps; null if there is no such slot. */
        private Store keptAt(int slot) {
            return slot >= 0 && slot < MOST_SAVES ? kept[slot] : null;
        }

        private int slotOf(int number) {
            for (int i = 0; i < openSaves && i < MOST_SAVES; i++) {
                if (keptNumbers[i] == number) {
                    return i;
                }
            }
            return -1;
        }

        private boolean scopesMadeSince(Store then) {
            for (int i = 0; i < scopeCount; i++) {
                if (!then.hasDict(scopeAt(i))) {
                    return true;
                }
            }
            return false;
        }

        private boolean stackMadeSince(Store then, int save) {
            for (int k = 1; k < stack.size; k++) {
                int number = stack.numberDown(k);
                switch (stack.kindDown(k) & KIND_BITS) {
                    case KIND_ARRAY:
                        if (endOf(number) > then.cells.size) {
                            return true;
                        }
                        break;
                    case KIND_DICT:
                        if (!then.hasDict(number)) {
                            return true;
                        }
                        break;
                    case KIND_SAVE:
                        if (number > save) {
                            return true;
                        }
                        break;
                    default:
                        break;
                }
            }
            return false;
        }
    }

    /** THE PAGE, GRAY and the PATH. */
    private static final class Canvas {
        final Stack stack;
        final int columns;
        final int rows;
        final int[] levels;
        float gray = 1f;
        final double[] across = new double[MOST_POINTS];
        final double[] along = new double[MOST_POINTS];
        /** For each POINT, which one its PART begins with. */
        final int[] begins = new int[MOST_POINTS];
        int points = 0;

        Canvas(Stack stack, int columns, int rows) {
            this.stack = stack;
            this.columns = columns >= 1 && columns <= MOST_COLUMNS ? columns : 16;
            this.rows = rows >= 1 && rows <= MOST_ROWS ? rows : 12;
            levels = new int[this.columns * this.rows];
        }

        int levelAt(int column, int row) {
            if (column < 0 || column >= columns || row < 0 || row >= rows) {
                return -1;
            }
            return levels[row * columns + column];
        }

        int wipe() {
            int painted = 0;
            for (int i = 0; i < levels.length; i++) {
                painted += levels[i] > 0 ? 1 : 0;
                levels[i] = 0;
            }
            return painted;
        }

        int act(Op op) {
            switch (op) {
                case SETGRAY:
                    return setGray();
                case NEWPATH:
                    points = 0;
                    return 0;
                case MOVETO:
                case LINETO:
                    return addGiven(op == Op.MOVETO);
                case CLOSEPATH:
                    return closePath();
                default:
                    return paint(op == Op.EOFILL);
            }
        }

        private int setGray() {
            double a = stack.doubleDown(0);
            if (a < 0.0 || a > 1.0) {
                return RANGE;
            }
            gray = (float) a;
            stack.drop(1);
            return 0;
        }

        private static boolean isOff(double place) {
            return place > MOST_PLACE || place < -MOST_PLACE;
        }

        private int addGiven(boolean newPart) {
            double x = stack.doubleDown(1);
            double y = stack.doubleDown(0);
            if (isOff(x) || isOff(y)) {
                return RANGE;
            }
            int end = newPart ? addPoint(x, y, points) : addToLatest(x, y);
            if (end == 0) {
                stack.drop(2);
            }
            return end;
        }

        /** The POINT that the latest PART begins with; -1 if the PATH is empty. */
        private int latestBegin() {
            return points > 0 && points <= MOST_POINTS ? begins[points - 1] : -1;
        }

        private int addToLatest(double x, double y) {
            int begin = latestBegin();
            return begin < 0 ? NOPOINT : addPoint(x, y, begin);
        }

        private int closePath() {
            int begin = latestBegin();
            if (begin < 0 || begin >= MOST_POINTS) {
                return NOPOINT;
            }
            return addPoint(across[begin], along[begin], begin);
        }

        private int addPoint(double x, double y, int begin) {
            if (points < 0 || points >= MOST_POINTS) {
                return LIMIT;
            }
            across[points] = x;
            along[points] = y;
            begins[points] = begin;
            points++;
            return 0;
        }

        private int paint(boolean byOdd) {
            int level = (int) (15f * gray + 0.5f);
            for (int row = 0; row < rows && points > 0; row++) {
                for (int column = 0; column < columns; column++) {
                    if (isInside(column + 0.5, row + 0.5, byOdd)) {
                        levels[row * columns + column] = level;
                    }
                }
            }
            points = 0;
            return 0;
        }

        private boolean isInside(double cx, double cy, boolean byOdd) {
            int ups = 0;
            int downs = 0;
            for (int i = 0; i < points; i++) {
                int way = wayOfEdge(i, cx, cy);
                ups += way > 0 ? 1 : 0;
                downs += way < 0 ? 1 : 0;
            }
            return byOdd ? (ups + downs & 1) == 1 : ups != downs;
        }

        private int nextOf(int i) {
            boolean goesOn = i + 1 < points && begins[i + 1] == begins[i];
            return goesOn ? i + 1 : begins[i];
        }

        /** 1 if the EDGE from POINT i on goes UP past that place, -1 if it goes DOWN past it, else 0. */
        private int wayOfEdge(int i, double cx, double cy) {
            int next = nextOf(i);
            if (next < 0 || next >= MOST_POINTS) {
                return 0;
            }
            double x0 = across[i];
            double y0 = along[i];
            double x1 = across[next];
            double y1 = along[next];
            double s = (x1 - x0) * (cy - y0) - (cx - x0) * (y1 - y0);
            if (y0 <= cy && cy < y1 && s > 0.0) {
                return 1;
            }
            return y1 <= cy && cy < y0 && s < 0.0 ? -1 : 0;
        }
    }

    /** Does VALUES: counts the STEPS, looks NAMES up, runs ARRAYS and the operators that run them. */
    private static final class Engine {
        final Stack stack;
        final Memory memory;
        final Canvas canvas;
        final Sums sums;
        final Truths truths;
        int fuelGiven = 0;
        int stepsDone = 0;
        int latestFault = 0;
        int underWay = 0;
        /** The ARRAYS that are UNDER WAY all lie before this cell. */
        int reach = 0;
        /** The loops that an exit could end: those within the innermost stopped. */
        int loops = 0;

        Engine(Stack stack, Memory memory, Canvas canvas) {
            this.stack = stack;
            this.memory = memory;
            this.canvas = canvas;
            sums = new Sums(stack);
            truths = new Truths(stack);
        }

        void begin(int fuel) {
            fuelGiven = fuel;
            stepsDone = 0;
        }

        void note(int failure) {
            latestFault = failure == 0 ? latestFault : failure;
        }

        private int countStep() {
            if (stepsDone >= fuelGiven) {
                return TIRED;
            }
            stepsDone++;
            return 0;
        }

        private int doValue(int kind, int number, double real) {
            int end = countStep();
            if (end != 0) {
                return end;
            }
            if (kind != LIVE_NAME) {
                return stack.push(kind, number, real);
            }
            int entry = memory.lookUp(number);
            return entry < 0 ? operate(number) : doFound(entry);
        }

        private int doFound(int entry) {
            Row values = memory.store.values;
            int kind = values.kindAt(entry);
            int number = values.numberAt(entry);
            if (kind == LIVE_ARRAY) {
                return runArray(number);
            }
            if (kind == LIVE_NAME) {
                return doUnderWay(kind, number);
            }
            return stack.push(kind, number, values.realAt(entry));
        }

        private int doUnderWay(int kind, int name) {
            if (underWay >= MOST_UNDER_WAY) {
                return NESTED;
            }
            underWay++;
            int end = doValue(kind, name, 0.0);
            underWay--;
            return end;
        }

        private int runArray(int array) {
            if (underWay >= MOST_UNDER_WAY) {
                return NESTED;
            }
            int reachBefore = reach;
            underWay++;
            reach = Math.max(reach, endOf(array));
            Row cells = memory.store.cells;
            int first = firstOf(array);
            int end = 0;
            for (int i = 0; i < lengthOf(array) && end == 0; i++) {
                end = doValue(cells.kindAt(first + i), cells.numberAt(first + i), cells.realAt(first + i));
            }
            underWay--;
            reach = reachBefore;
            return end;
        }

        private int operate(int name) {
            if (name < 0 || name >= OPERATORS.length) {
                return UNDEFINED;
            }
            Op op = OPERATORS[name];
            int end = stack.check(op.takes);
            if (end != 0) {
                return end;
            }
            switch (op.group) {
                case ON_STACK:
                    return stack.shuffle(op);
                case ON_NUMBERS:
                    return sums.act(op);
                case ON_TRUTHS:
                    return truths.act(op);
                case ON_ARRAYS:
                    return memory.actOnArrays(op);
                case ON_DICTS:
                    return memory.actOnDicts(op);
                case ON_SAVES:
                    return op == Op.SAVE ? memory.save() : memory.restore(reach);
                case ON_PAGE:
                    return canvas.act(op);
                default:
                    return actOnRuns(op);
            }
        }

        private int actOnRuns(Op op) {
            switch (op) {
                case EXEC:
                    return execute();
                case IF:
                    return runIf();
                case IFELSE:
                    return runIfElse();
                case FOR:
                    return runFor();
                case REPEAT:
                    return runRepeat();
                case LOOP:
                    return runLoop();
                case FORALL:
                    return runForAll();
                case EXIT:
                    return loops > 0 ? LEFT : NOLOOP;
                case STOP:
                    return STOPPED;
                case CATCH:
                    return runStopped();
                default:
                    return stack.pushInt(latestFault);
            }
        }

        private int execute() {
            int kind = stack.kindDown(0);
            int number = stack.numberDown(0);
            double real = stack.realDown(0);
            stack.drop(1);
            if (kind == LIVE_ARRAY) {
                return runArray(number);
            }
            return (kind & KIND_BITS) == KIND_NAME ? doUnderWay(kind, number) : doValue(kind, number, real);
        }

        private int runIf() {
            boolean flag = stack.numberDown(1) == 1;
            int array = stack.numberDown(0);
            stack.drop(2);
            return flag ? runArray(array) : 0;
        }

        private int runIfElse() {
            boolean flag = stack.numberDown(2) == 1;
            int array = stack.numberDown(flag ? 1 : 0);
            stack.drop(3);
            return runArray(array);
        }

        private int runFor() {
            long v = stack.numberDown(3);
            int by = stack.numberDown(2);
            int last = stack.numberDown(1);
            int body = stack.numberDown(0);
            stack.drop(4);
            loops++;
            int end = 0;
            for (int turn = 0; turn < MOST_TURNS && end == 0 && (by < 0 ? v >= last : v <= last); turn++) {
                end = countStep();
                if (end == 0) {
                    end = stack.pushInt((int) v);
                }
                if (end == 0) {
                    end = runArray(body);
                }
                v += by;
            }
            loops--;
            return end == LEFT ? 0 : end;
        }

        private int runRepeat() {
            int turns = stack.numberDown(1);
            if (turns < 0) {
                return RANGE;
            }
            int body = stack.numberDown(0);
            stack.drop(2);
            return takeTurns(turns, body);
        }

        private int runLoop() {
            int body = stack.numberDown(0);
            stack.drop(1);
            return takeTurns(MOST_TURNS, body);
        }

        private int takeTurns(int turns, int body) {
            loops++;
            int end = 0;
            for (int turn = 0; turn < turns && end == 0; turn++) {
                end = countStep();
                if (end == 0) {
                    end = runArray(body);
                }
            }
            loops--;
            return end == LEFT ? 0 : end;
        }

        private int runForAll() {
            int array = stack.numberDown(1);
            int body = stack.numberDown(0);
            stack.drop(2);
            int reachBefore = reach;
            reach = Math.max(reach, endOf(array));
            loops++;
            int end = 0;
            for (int i = 0; i < lengthOf(array) && end == 0; i++) {
                end = countStep();
                if (end == 0) {
                    end = stack.pushFrom(memory.store.cells, firstOf(array) + i);
                }
                if (end == 0) {
                    end = runArray(body);
                }
            }
            loops--;
            reach = reachBefore;
            return end == LEFT ? 0 : end;
        }

        private int runStopped() {
            int loopsOutside = loops;
            loops = 0;
            int end = execute();
            loops = loopsOutside;
            if (end == TIRED) {
                return end;
            }
            note(end);
            return stack.pushFlag(end != 0);
        }
    }
}
