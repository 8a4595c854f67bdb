/**
 * The FAILURES of the operators: which come first, and that the operator has changed nothing then. What each
 * operator takes is told here once more, as the document tells it.
 */
public final class FailuresTest {
    /**
     * Word and sorts, the top VALUE last: x any, i an INT, n a number, b a BOOLEAN, w a NAME, a an ARRAY,
     * p a LIVE ARRAY, d a DICT, s a SAVE; two ways are told with | between.
     */
    private static final String[] TAKES = {
        "pop x", "exch xx", "dup x", "copy i", "index i", "roll ii", "clear", "count", "mark", "cleartomark", "[", "]",
        "add nn", "sub nn", "mul nn", "div nn", "idiv ii", "mod ii", "neg n", "floor n", "round n", "cvi n", "cvr n",
        "true", "false", "eq xx", "ne xx", "gt nn", "ge nn", "lt nn", "le nn", "and bb|ii", "or bb|ii", "not b|i",
        "bitshift ii", "cvx x", "cvlit x", "xcheck x", "kind x",
        "array i", "length a|d", "get ai|dw", "put aix|dwx", "getinterval aii", "aload a",
        "dict i", "begin d", "end", "def wx", "load w", "known dw", "currentdict",
        "exec x", "if bp", "ifelse bpp", "for iiip", "repeat ip", "loop p", "forall ap", "exit", "stop", "stopped x", "fault",
        "save", "restore s",
        "setgray n", "newpath", "moveto nn", "lineto nn", "closepath", "fill", "eofill",
    };

    /** A VALUE of each sort, and the letters that it is one of. */
    private static final String[] VALUES = {"5", "1.5", "true", "/a", "{a} 0 get", "mark", "[7]", "{7}", "currentdict", "s"};
    private static final String[] SORTS = {"xin", "xn", "xb", "xw", "xw", "x", "xa", "xap", "xd", "xs"};

    public static void main(String[] args) {
        everyOperatorIsThere();
        tooFew();
        wrongSorts();
        typeLeavesAll();
        inTheirOrder();
        overflow();
        fullButNoMore();
        tiredFirst();
        Check.finish();
    }

    private static String wordOf(String row) {
        return row.split(" ")[0];
    }

    private static String[] waysOf(String row) {
        return row.contains(" ") ? row.split(" ")[1].split("\\|") : new String[] {""};
    }

    /** An operator's WORD is no KNOWN WORD, and has its letters as it is written. */
    private static void everyOperatorIsThere() {
        Check.same("operators", 72, TAKES.length);
        for (String row : TAKES) {
            String word = wordOf(row);
            Check c = Check.fresh("{" + word + "} 0 get", word).used(5, 0);
            Check.same("kind of " + word, 11, c.scribe.kind(0));
            Check.same("length of " + word, word.length(), c.scribe.number(0));
        }
    }

    /** "UNDERFLOW (fewer VALUES are there than it takes)", also when those that are there are of a wrong sort. */
    private static void tooFew() {
        for (String row : TAKES) {
            int takes = waysOf(row)[0].length();
            for (int there = 0; there < takes; there++) {
                Twins.refuses(wordOf(row), Check.UNDERFLOW, Check.times(there, "mark"));
                Twins.refuses(wordOf(row), Check.UNDERFLOW, Check.times(there, "5"));
            }
            Check c = new Check();
            c.text(takes == 0 ? "" : Check.times(takes, "5")).scribe.run(9);
            c.text(wordOf(row));
            Check.same("UNDERFLOW of " + row, false, c.scribe.run(500) == Check.UNDERFLOW);
        }
    }

    /** "TYPE (one of them is not as it is to be)": every operator with every sort in every place. */
    private static void wrongSorts() {
        for (String row : TAKES) {
            int takes = waysOf(row)[0].length();
            int many = 1;
            for (int i = 0; i < takes; i++) {
                many *= VALUES.length;
            }
            for (int one = 0; one < many; one++) {
                tryValues(row, one, takes);
            }
        }
    }

    private static void tryValues(String row, int one, int takes) {
        int[] chosen = new int[takes];
        StringBuilder text = new StringBuilder("/s save def ");
        for (int i = 0, rest = one; i < takes; i++, rest /= VALUES.length) {
            chosen[i] = rest % VALUES.length;
            text.append(VALUES[chosen[i]]).append(' ');
        }
        boolean fits = false;
        for (String way : waysOf(row)) {
            fits |= fits(way, chosen);
        }
        PageScribe scribe = new PageScribe(1, 1);
        Check.same("write " + text, true, Check.writeAll(scribe, text.toString()));
        Check.same("run of " + text, 0, scribe.run(Check.MOST_FUEL));
        Check.writeAll(scribe, wordOf(row));
        int failure = scribe.run(Check.MOST_FUEL);
        Check.same("TYPE of " + text + wordOf(row), !fits, failure == Check.TYPE);
        if (!fits) {
            Check.same("depth after " + text + wordOf(row), takes, scribe.depth());
        }
    }

    private static boolean fits(String way, int[] chosen) {
        for (int i = 0; i < chosen.length; i++) {
            if (SORTS[chosen[i]].indexOf(way.charAt(i)) < 0) {
                return false;
            }
        }
        return true;
    }

    /** "the operator has changed nothing then": each place of each operator with a wrong VALUE, the others right. */
    private static void typeLeavesAll() {
        for (String row : TAKES) {
            String way = waysOf(row)[0];
            for (int wrong = 0; wrong < way.length(); wrong++) {
                if (way.charAt(wrong) != 'x') {
                    Twins.refuses(wordOf(row), Check.TYPE, "/a 3 def /s save def", rightBut(way, wrong));
                }
            }
        }
    }

    private static String rightBut(String way, int wrong) {
        StringBuilder text = new StringBuilder("6");
        for (int i = 0; i < way.length(); i++) {
            text.append(' ').append(i == wrong ? "mark" : rightOf(way.charAt(i)));
        }
        return text.toString();
    }

    private static String rightOf(char sort) {
        for (int i = 0; i < VALUES.length; i++) {
            if (SORTS[i].indexOf(sort) >= 0) {
                return VALUES[i];
            }
        }
        return "";
    }

    /** "in this order: UNDERFLOW, TYPE, then those that are told with it, in their order, then OVERFLOW". */
    private static void inTheirOrder() {
        String full = Check.times(39, "7");
        Twins.refuses("copy", Check.RANGE, full, "40");
        Twins.refuses("copy", Check.OVERFLOW, full, "39");
        Twins.refuses("copy", Check.TYPE, full, "40.0");
        Twins.refuses("index", Check.RANGE, full, "39");
        Twins.refuses("index", Check.TYPE, full, "true");
        Twins.refuses("roll", Check.TYPE, "1 2 9 1.0");
        Twins.refuses("roll", Check.TYPE, "1 2 9.0 1");
        Twins.refuses("div", Check.TYPE, "true 0");
        Twins.refuses("idiv", Check.TYPE, "1.5 0");
        Twins.refuses("mod", Check.TYPE, "1.5 0");
        Twins.refuses("div", Check.DIVIDED, "999999999.0 0.0");
        Twins.refuses("array", Check.RANGE, "160 array pop", "-1");
        Twins.refuses("array", Check.TYPE, "160 array pop", "1.0");
        Twins.refuses("get", Check.TYPE, "[] 5.0");
        Twins.refuses("get", Check.TYPE, "1 dict 5");
        Twins.refuses("put", Check.TYPE, "[] 5.0 1");
        Twins.refuses("put", Check.TYPE, "1 dict dup /a 1 put 5 1");
        Twins.refuses("getinterval", Check.TYPE, "[] 5 1.0");
        Twins.refuses("dict", Check.RANGE, "6 {1 dict} repeat", "0");
        Twins.refuses("dict", Check.RANGE, "6 {1 dict} repeat", "11");
        Twins.refuses("dict", Check.TYPE, "6 {1 dict} repeat", "1.0");
        Twins.refuses("dict", Check.LIMIT, "6 {1 dict} repeat", Check.times(33, "7"), "1");
        Twins.refuses("begin", Check.TYPE, "5 {currentdict begin} repeat", "5");
        Twins.refuses("begin", Check.UNDERFLOW, "5 {currentdict begin} repeat");
        Twins.refuses("def", Check.TYPE, "1 dict begin /a 1 def", "5 1");
        Twins.refuses("repeat", Check.TYPE, "-1 [7]");
        Twins.refuses("repeat", Check.UNDERFLOW, "{7}");
        Twins.refuses("save", Check.LIMIT, "save save save", Check.times(37, "7"));
        Twins.refuses("save", Check.OVERFLOW, "save save", Check.times(38, "7"));
        Twins.refuses("]", Check.UNMATCHED, full + " 7");
        Twins.refuses("]", Check.LIMIT, "159 array pop mark 1 2");
        Twins.refuses("setgray", Check.TYPE, "true");
        Twins.refuses("lineto", Check.TYPE, "true 2000000");
        Twins.refuses("lineto", Check.TYPE, "2000000 true");
        Twins.refuses("lineto", Check.RANGE, "2000000 1");
        Twins.refuses("lineto", Check.RANGE, "1 2000000");
        Twins.refuses("lineto", Check.NOPOINT, "1 1");
        Twins.refuses("lineto", Check.RANGE, "30 {1 1 moveto} repeat", "1 -2000000");
        Twins.refuses("lineto", Check.LIMIT, "30 {1 1 moveto} repeat", "1 1");
        Twins.refuses("moveto", Check.RANGE, "30 {1 1 moveto} repeat", "-2000000 1");
        Twins.refuses("moveto", Check.LIMIT, "30 {1 1 moveto} repeat", "1 1");
        Twins.refuses("closepath", Check.NOPOINT);
        Twins.refuses("closepath", Check.LIMIT, "30 {1 1 moveto} repeat");
    }

    /** "then OVERFLOW (more than 40 would be there)": what gives more than it takes, with just enough room and one less. */
    private static void overflow() {
        String[] rows = {"dup 1", "count 1", "mark 1", "[ 1", "true 1", "false 1", "currentdict 1", "save 1", "fault 1"};
        for (String row : rows) {
            edge(wordOf(row), "", 1);
        }
        edge("copy", "7 7 2", 1);
        edge("copy", "7 7 7 3", 2);
        edge("aload", "3 array", 3);
        edge("aload", "1 array", 1);
        edge("aload", "{1 2}", 2);
        Twins.takes("aload", 40, "39 array");
        Twins.refuses("aload", Check.OVERFLOW, "40 array");
        Twins.refuses("aload", Check.OVERFLOW, "160 array");
        Twins.takes("copy", 40, Check.times(20, "7"), "20");
        Twins.refuses("copy", Check.OVERFLOW, Check.times(21, "7"), "20");
        Twins.refuses("copy", Check.OVERFLOW, Check.times(21, "7"), "21");
        Twins.refuses("copy", Check.OVERFLOW, Check.times(39, "7"), "2");
        Twins.takes("copy", 40, Check.times(39, "7"), "1");
        Twins.takes("copy", 39, Check.times(39, "7"), "0");
    }

    /** The operator takes those VALUES and leaves `more` more than there were: once with room for them, once with one less. */
    private static void edge(String operator, String values, int more) {
        int taken = 40 - more - (values.isEmpty() ? 0 : depthOf(values));
        Twins.takes(operator, 40, Check.times(taken, "7"), values);
        Twins.refuses(operator, Check.OVERFLOW, Check.times(taken + 1, "7"), values);
    }

    private static int depthOf(String values) {
        Check c = new Check();
        c.text(values).scribe.run(99);
        return c.scribe.depth();
    }

    /** What gives no more than it takes is not refused with 40 VALUES there. */
    private static void fullButNoMore() {
        String[] rows = {"pop 7 39", "exch 1,2 40", "index 37 40", "roll 38,1 38", "clear 7 0", "cleartomark mark 39", "add 1,2 39",
            "neg 7 40", "floor 7 40", "cvr 7 40", "eq 1,2 39", "not 7 40", "bitshift 1,2 39", "cvx /a 40", "xcheck 7 40", "kind 7 40",
            "array 1 40", "length {7} 40", "get {7},0 39", "put {7},0,8 37", "getinterval {7},0,1 38", "aload {} 40",
            "dict 1 40", "begin currentdict 39", "def /a,1 38", "load /b 40", "known currentdict,/a 39", "if true,{7} 39",
            "ifelse true,{7},{} 38", "for 1,1,3,{} 39", "repeat 2,{7} 40", "forall {7},{} 39", "exec {7} 40", "exec /b,cvx 40",
            "restore save 39", "setgray 1 39", "moveto 1,1 38", "newpath 7 40", "] mark 40"};
        for (String row : rows) {
            String[] parts = row.split(" ");
            String values = parts[1].replace(',', ' ');
            Check c = new Check().ok("/b 3 def", "");
            c.text(values).scribe.run(99);
            int taken = c.scribe.depth();
            c.scribe.write(Check.packed("clear"));
            c.scribe.run(9);
            c.text(Check.times(40 - taken, "7")).scribe.run(99);
            c.text(values).scribe.run(99);
            Check.same("depth before " + row, 40, c.scribe.depth());
            c.text(parts[0]);
            Check.same("failure of " + row, 0, c.scribe.run(99));
            Check.same("depth after " + row, Integer.parseInt(parts[2]), c.scribe.depth());
        }
    }

    /** A STEP that would be one too many is TIRED before the operator can fail; a TOKEN that can't be read comes before it. */
    private static void tiredFirst() {
        new Check().run(1, "1 exch", Check.TIRED, "1").steps(1);
        new Check().run(2, "1 exch", Check.UNDERFLOW, "1").steps(2);
        new Check().run(1, "1 nothing", Check.TIRED, "1").used(5, 1);
        new Check().run(1, "1 ]", Check.TIRED, "1");
        new Check().run(1, "1 !", Check.SYNTAX, "1").steps(1);
        new Check().run(1, "1 {{{{{", Check.NESTED, "1").steps(1);
        Check full = Check.fresh(Check.times(40, "7"), Check.times(40, "7"));
        full.run(1, "exch 8", Check.TIRED, Check.times(40, "7")).steps(1);
        full.run(2, "exch 8", Check.OVERFLOW, Check.times(40, "7")).steps(2);
        Check cells = Check.fresh("160 array", "[160]");
        cells.run(1, "1 {2}", Check.LIMIT, "[160] 1").steps(1);
        cells.run(1, "pop 1 {2}", Check.TIRED, "[160]").steps(1);
    }
}
