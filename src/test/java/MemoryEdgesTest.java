/** The edges of cells, arrays, DICTS, the DICT STACK, save and restore, in the document's order. */
public final class MemoryEdgesTest {
    private static final String MOST = "1 31 bitshift not ", LEAST = "1 31 bitshift ";

    public static void main(String[] args) {
        newArrays();
        cellsOfArrays();
        intervals();
        loading();
        rooms();
        entries();
        mostDicts();
        allFull();
        dictStack();
        lookingUp();
        saves();
        restoreOpen();
        restoreBelow();
        restoreDictStack();
        restoreUnderWay();
        whatGoesBack();
        whatStays();
        Check.finish();
    }

    /** "CELLS 0 .. 159"; "n array: a NEW ARRAY of n INTS 0, not LIVE (RANGE: n is below 0; LIMIT)". */
    private static void newArrays() {
        for (int n = 0; n <= 160; n++) {
            Check c = Check.fresh(n + " array", "[" + n + "]").used(0, n);
            Check.same("kind", 5, c.scribe.kind(0));
            c.run(161 - n + " array", Check.LIMIT, "[" + n + "] " + (161 - n)).used(0, n);
            c.ok("pop " + (160 - n) + " array", "[" + n + "] [" + (160 - n) + "]").used(0, 160);
            c.ok("clear 0 array [] {}", "[0] [0] {0}").used(0, 160).run("1 array", Check.LIMIT, "[0] [0] {0} 1");
        }
        Twins.refuses("array", Check.RANGE, "-1");
        Twins.refuses("array", Check.RANGE, LEAST);
        Twins.refuses("array", Check.LIMIT, MOST);
        Twins.refuses("array", Check.LIMIT, "161");
        Twins.refuses("array", Check.LIMIT, "416");
        Twins.refuses("array", Check.LIMIT, "159 array 2");
        Check.fresh("160 array dup 0 get exch dup 80 get exch 159 get", "0 0 0");
    }

    /** "A i get: the VALUE in its cell i, from 0 (RANGE: no such)"; put likewise. */
    private static void cellsOfArrays() {
        for (int n = 0; n <= 4; n++) {
            String made = "[1 2 3 4 5 6] 1 " + n + " getinterval";
            for (int i = -2; i <= 6; i++) {
                if (i >= 0 && i < n) {
                    Check.fresh(made + " " + i + " get", "" + (i + 2));
                    Check.fresh(made + " dup " + i + " /x put " + i + " get", "/x");
                } else {
                    Twins.refuses("get", Check.RANGE, made + " " + i);
                    Twins.refuses("put", Check.RANGE, made + " dup " + i + " /x");
                }
            }
            Twins.refuses("get", Check.RANGE, made, MOST);
            Twins.refuses("get", Check.RANGE, made, LEAST);
            Twins.refuses("put", Check.RANGE, made, MOST + "8");
            Twins.refuses("put", Check.RANGE, made, LEAST + "8");
        }
        Check.fresh("160 array dup 159 7 put dup 0 8 put dup 159 get exch dup 0 get exch 158 get", "7 8 0");
        Check.fresh("[1 2 3 4] dup 1 2 getinterval dup 0 8 put 1 9 put aload pop", "1 8 9 4");
        Check.fresh("[1 2] dup 1 2 index put dup 1 get eq", "true");
        Check.fresh("[1 2] dup 1 mark put dup 0 1.5 put aload pop", "1.5 mark");
    }

    /** "getinterval: an ARRAY of the n cells from its cell i on (RANGE: i or n is below 0, or A has not so many)". */
    private static void intervals() {
        for (int i = -2; i <= 6; i++) {
            for (int n = -2; n <= 6; n++) {
                String made = "[7 1 2 3 4 8 9] 1 4 getinterval";
                if (i >= 0 && n >= 0 && i + n <= 4) {
                    Check.fresh(made + " " + i + " " + n + " getinterval", "[" + n + "]").ok("aload pop", fromTo(i + 1, i + n));
                } else {
                    Twins.refuses("getinterval", Check.RANGE, made, i + " " + n);
                }
            }
        }
        String[] far = {MOST + MOST, MOST + "0", "0 " + MOST, "1 " + MOST, LEAST + "0", "0 " + LEAST, LEAST + LEAST, LEAST + MOST, MOST + LEAST};
        for (String two : far) {
            Twins.refuses("getinterval", Check.RANGE, "[1 2 3]", two);
        }
        Check.fresh("160 array dup 0 160 getinterval eq 0 array 0 0 getinterval", "true [0]").used(0, 160);
        Check.fresh("160 array dup 160 0 getinterval exch 159 1 getinterval", "[0] [1]");
        Check.fresh("[1] 0 1 getinterval {1} 0 1 getinterval {1} 1 0 getinterval", "[1] {1} {0}");
    }

    private static String fromTo(int first, int last) {
        StringBuilder told = new StringBuilder();
        for (int i = first; i <= last; i++) {
            told.append(i == first ? "" : " ").append(i);
        }
        return told.toString();
    }

    /** "A aload: its VALUES, then A". */
    private static void loading() {
        Check.fresh("[] aload {} aload", "[0] {0}");
        Check.fresh("[1] aload {2 x} aload", "1 [1] 2 x {2}");
        for (int n = 1; n <= 39; n++) {
            Check.fresh(n + " array aload pop count", Check.times(n, "0") + " " + n);
        }
        Twins.takes("aload", 40, "1", "38 array");
        Twins.refuses("aload", Check.OVERFLOW, "1", "39 array");
    }

    /** "n dict: a new DICT with ROOM n (RANGE: n is not 1 .. 10 ..)"; "D N x put: .. (FULL: no ROOM)". */
    private static void rooms() {
        for (int room = 1; room <= 10; room++) {
            Check c = Check.fresh(room + " dict dup begin dup length", "dict1 0");
            for (int i = 0; i < room; i++) {
                c.ok("pop dup /" + (char) ('a' + i) + " " + i + " put dup length", "dict1 " + (i + 1));
            }
            c.ok("pop", "dict1").run("dup /z 5 put", Check.FULL, "dict1 dict1 /z 5").ok("clear currentdict length", "" + room);
            c.run("/z 5 def", Check.FULL, room + " /z 5").ok("pop pop pop currentdict /z known", "false");
            c.ok("/a 8 def currentdict dup /a 9 put length a", "false " + room + " 9");
            c.ok("clear currentdict " + (room == 1 ? "" : "/" + (char) ('a' + room - 1) + " load exch ") + "length",
                (room == 1 ? "" : room - 1 + " ") + room);
        }
        Twins.refuses("dict", Check.RANGE, "0");
        Twins.refuses("dict", Check.RANGE, "11");
        Twins.refuses("dict", Check.RANGE, "-1");
        Twins.refuses("dict", Check.RANGE, MOST);
        Twins.refuses("dict", Check.RANGE, LEAST);
        Twins.refuses("put", Check.FULL, "1 dict dup /a 1 put dup /b 2");
        Twins.refuses("def", Check.FULL, "1 dict begin /a 1 def", "/b 2");
    }

    /** "DICT 0 .. with ROOM 20"; "ENTRIES (a NAME, LIVE or not alike, and a VALUE)". */
    private static void entries() {
        Check c = new Check();
        for (int i = 0; i < 20; i++) {
            c.ok("currentdict length /" + (char) ('a' + i) + " " + i + " def", "" + i).ok("clear", "");
        }
        c.run("/z 5 def", Check.FULL, "/z 5").run("clear currentdict /z 5 put", Check.FULL, "dict0 /z 5");
        c.run("clear /pop 5 def", Check.FULL, "/pop 5").ok("pop pop /a 77 def currentdict dup /t 88 put length a b t", "20 77 1 88");
        Twins.refuses("get", Check.UNDEFINED, "1 dict /a");
        Twins.refuses("get", Check.UNDEFINED, "1 dict /pop");
        Twins.refuses("get", Check.UNDEFINED, "1 dict dup /a 1 put /b");
        Twins.refuses("get", Check.UNDEFINED, "/b 1 def 1 dict dup begin /b");
        Twins.refuses("load", Check.UNDEFINED, "/pop");
        Twins.refuses("load", Check.UNDEFINED, "/b cvx");
        Check.fresh("2 dict dup /a 1 put dup {a} 0 get 2 put dup length exch dup /a get exch {a} 0 get get", "1 2 2");
        Check.fresh("1 dict dup {a} 0 get known exch dup /a 1 put dup {a} 0 get known exch /aa known", "false true false");
        Check.fresh("{a} 0 get 5 def a /a load {a} 0 get load", "5 5 5");
        Check.fresh("1 dict dup /a /a put /a get", "/a").used(1, 1);
        Check.fresh("/d 2 dict def d /a 5 put currentdict /a 6 put d /a get a d length currentdict length", "5 6 1 2");
    }

    /** "at most 6 more are there (a new one has the least number that is free)"; "LIMIT: 6 are there". */
    private static void mostDicts() {
        Check c = new Check();
        for (int d = 1; d <= 6; d++) {
            c.ok("10 dict", "dict" + d).used(1, d).ok("pop", "");
        }
        c.run("1 dict", Check.LIMIT, "1").used(1, 6);
        c = Check.fresh("1 dict pop save 4 {1 dict pop} repeat", "save1").used(1, 5);
        c.ok("1 dict pop", "save1").run("1 dict", Check.LIMIT, "save1 1").used(1, 6).ok("pop restore", "").used(1, 1);
        c.ok("5 {1 dict} repeat", "dict2 dict3 dict4 dict5 dict6").used(1, 6).run("1 dict", Check.LIMIT, "dict2 dict3 dict4 dict5 dict6 1");
    }

    /** All DICTS there, each with no ROOM left: every ENTRY of every one is its own. */
    private static void allFull() {
        Check c = new Check().ok("/z 6 array def 0 1 5 {z exch 10 dict put} for", "");
        for (int i = 0; i < 10; i++) {
            String name = "/" + (char) ('a' + i);
            c.ok("0 1 5 {dup z exch get exch 10 mul " + i + " add " + name + " exch put} for " + name + " " + (100 + i) + " def", "");
        }
        for (int i = 0; i < 10; i++) {
            String name = "/" + (char) ('a' + i);
            c.ok("z {" + name + " get} forall " + name + " load", fromTens(i) + " " + (100 + i)).ok("clear", "");
        }
        c.run("z 0 get /k 1 put", Check.FULL, "dict1 /k 1").run("clear z 5 get /k 1 put", Check.FULL, "dict6 /k 1");
        c.ok("clear z {length} forall currentdict length", "10 10 10 10 10 10 11");
    }

    private static String fromTens(int i) {
        StringBuilder told = new StringBuilder("" + i);
        for (int d = 1; d < 6; d++) {
            told.append(' ').append(10 * d + i);
        }
        return told.toString();
    }

    /** "The DICT STACK has DICT 0 at its bottom, always, and at most 6 DICTS"; "begin .. (LIMIT)"; "end .. (UNMATCHED ..)". */
    private static void dictStack() {
        Check c = new Check().used(2, 1);
        c.run("end", Check.UNMATCHED, "").ok("currentdict", "dict0").ok("pop", "");
        for (int d = 1; d <= 5; d++) {
            c.ok("1 dict dup begin currentdict eq", "true").used(2, d + 1).ok("pop", "");
        }
        c.ok("1 dict", "dict6").run("begin", Check.LIMIT, "dict6").used(2, 6).ok("pop currentdict", "dict5").ok("pop", "");
        for (int d = 5; d >= 1; d--) {
            c.ok("currentdict end", "dict" + d).used(2, d).ok("pop", "");
        }
        c.run("end", Check.UNMATCHED, "").used(2, 1).ok("currentdict", "dict0");
        c.ok("5 {currentdict begin} repeat", "dict0").used(2, 6).run("begin", Check.LIMIT, "dict0").ok("5 {end} repeat", "dict0");
        c.run("end", Check.UNMATCHED, "dict0");
        Twins.refuses("end", Check.UNMATCHED);
        Twins.refuses("begin", Check.LIMIT, "5 {currentdict begin} repeat", "1 dict");
    }

    /** "the first DICT of the DICT STACK, from the top down, that has it", at every place of a full one. */
    private static void lookingUp() {
        for (int has = 0; has <= 5; has++) {
            Check c = new Check();
            for (int d = 0; d <= 5; d++) {
                c.ok((d > 0 ? "1 dict begin " : "") + (d == has ? "/a " + d + " def" : ""), "");
            }
            c.ok("a /a load", has + " " + has).ok("end {a} stopped", has + " " + has + (has == 5 ? " true" : " " + has + " false"));
        }
        Check c = new Check();
        for (int d = 0; d <= 5; d++) {
            c.ok((d > 0 ? "1 dict begin " : "") + "/a " + d + " def", "");
        }
        for (int d = 5; d >= 1; d--) {
            c.ok("clear a /a load end", d + " " + d);
        }
        c.ok("clear a", "0").run("nothing", Check.UNDEFINED, "0").steps(1);
    }

    /** "they are numbered 1, 2, .., no number twice (LIMIT: three are OPEN)". */
    private static void saves() {
        Check c = new Check().used(3, 0);
        c.ok("save", "save1").used(3, 1).ok("save", "save1 save2").used(3, 2).ok("save", "save1 save2 save3").used(3, 3);
        c.run("save", Check.LIMIT, "save1 save2 save3").used(3, 3).run("pop pop pop save", Check.LIMIT, "").used(3, 3);
        c = Check.fresh("save save save restore save", "save1 save2 save4").used(3, 3);
        c.ok("pop pop restore", "").used(3, 0).ok("save save save", "save5 save6 save7").used(3, 3);
        c.run("save", Check.LIMIT, "save5 save6 save7").ok("restore restore restore save", "save8").used(3, 1);
        Twins.refuses("save", Check.LIMIT, "save save save");
        Twins.refuses("save", Check.LIMIT, "3 {save pop} repeat");
        Check many = new Check();
        for (int n = 1; n <= 30; n++) {
            many.ok("save", "save" + n).used(3, 1).ok("restore", "").used(3, 0);
        }
    }

    /** "restore (INVALID: it is not OPEN ..": it and those made since are not OPEN any more. */
    private static void restoreOpen() {
        Twins.refuses("restore", Check.INVALID, "save dup restore");
        Twins.refuses("restore", Check.INVALID, "save dup save pop restore");
        Twins.refuses("restore", Check.INVALID, "save save exch pop dup restore");
        Twins.refuses("restore", Check.INVALID, "3 {save restore} repeat save dup restore");
        Check c = Check.fresh("/g 3 array def g 0 save put g 1 save put g 2 save put", "").used(3, 3);
        c.ok("g 2 get restore g 2 get", "0").used(3, 2).ok("pop g 1 get restore g 1 get", "0").used(3, 1);
        c.ok("pop g 0 get restore g 0 get", "0").used(3, 0);
        c = Check.fresh("save save save pop pop restore", "").used(3, 0);
        c = Check.fresh("save save save pop restore", "save1").used(3, 1).ok("save save", "save1 save4 save5").used(3, 3);
        c.run("save", Check.LIMIT, "save1 save4 save5").ok("pop pop restore", "").used(3, 0);
    }

    /** "or an ARRAY with a LENGTH above 0, in cells not TAKEN when it was made, or a DICT or SAVE made since, is on the STACK below". */
    private static void restoreBelow() {
        String[] fine = {"[1 2 3] save", "{1 2 3} save", "[1 2 3] save 1 index 2 1 getinterval exch", "[1 2 3] save 9 array pop",
            "[1 2 3] save [] exch", "[1 2 3] save {} exch", "[1 2 3] save [4] 0 0 getinterval exch", "[1 2 3] save [4] 1 0 getinterval exch",
            "1 dict save", "save save 1 dict pop", "save dup", "1 dict save 1 index exch", "save 5 exch /a exch mark exch 1.5 exch true exch",
            "save [1] length exch", "6 {1 dict} repeat save", "6 {1 dict} repeat save 9 array pop", "save 160 array pop", "[0] dup save exch 0 [5] put"};
        for (String text : fine) {
            Check c = new Check();
            c.text(text).scribe.run(500);
            int depth = c.scribe.depth();
            int open = c.scribe.used(3);
            c.text("restore");
            Check.same("restore after " + text, 0, c.scribe.run(9));
            Check.same("depth after " + text, depth - 1, c.scribe.depth());
            c.used(3, open - 1);
        }
        String[] invalid = {"[1 2 3] save [4] exch", "[1 2 3] save {4} exch", "[1 2 3] save 1 array exch", "[1 2 3] save [4 5] 1 1 getinterval exch",
            "[1 2 3] save [4 5] 0 1 getinterval exch", "save 1 array exch 7 exch", "save 1 array exch 7 8 9 4 -1 roll",
            "save 1 dict exch", "1 dict save 1 dict exch", "save save exch", "save save save pop exch", "save dup save exch",
            "save save dup restore exch", "save 1 dict exch 38 {7 exch} repeat"};
        for (String text : invalid) {
            Twins.refuses("restore", Check.INVALID, text);
        }
        Twins.refuses("restore", Check.INVALID, "save 1 array exch 38 {7 exch} repeat");
        Twins.refuses("restore", Check.INVALID, "save save exch 38 {7 exch} repeat");
    }

    /** ".. on the DICT STACK": a DICT made since, at its top or below it. */
    private static void restoreDictStack() {
        Twins.refuses("restore", Check.INVALID, "save 1 dict begin");
        Twins.refuses("restore", Check.INVALID, "save 1 dict begin currentdict end currentdict exch begin begin");
        Twins.refuses("restore", Check.INVALID, "1 dict save exch begin 1 dict begin 3 {currentdict begin} repeat");
        Twins.refuses("restore", Check.INVALID, "1 dict save 1 dict begin exch begin");
        Check.fresh("1 dict dup begin save exch begin restore", "").used(2, 3).used(1, 1);
        Check.fresh("save 1 dict begin end restore", "").used(2, 1).used(1, 0);
        Check.fresh("save currentdict begin restore", "").used(2, 2);
    }

    /** ".. or UNDER WAY": what is RUN, and the A of a forall, when it lies in cells not TAKEN then. */
    private static void restoreUnderWay() {
        String[] invalid = {"save {restore} exec", "save true {restore} if", "save true {restore} {} ifelse", "save false {} {restore} ifelse",
            "save 1 1 1 {pop restore} for", "save 1 {restore} repeat", "save {restore} loop",
            "save [7] {pop restore} forall", "save {{restore} exec} exec", "save {7 restore} 1 1 getinterval exec"};
        for (String text : invalid) {
            Check.same("restore in " + text, Check.INVALID, lastOf(text));
        }
        Check.fresh("save {restore} stopped", "save1 true").fault(Check.INVALID).used(3, 1);
        Check.fresh("/s save def {s restore} stopped", "save1 true").fault(Check.INVALID).used(3, 1);
        Check.fails("/s save def /p {s restore} def p", Check.INVALID, "save1");
        Check.fails("/p {s restore} def /s save def {p} exec", Check.INVALID, "save1");
        Check.fails("{pop s restore} /s save def [7] exch forall", Check.INVALID, "save1");
        Check.fresh("{pop restore} [7] save 3 1 roll exch forall", "").used(3, 0).used(0, 3);
        Check.fails("/p {pop restore} def /a [7] def save {a /p load forall} exec", Check.INVALID, "save1").used(3, 1);
        Check.fails("/p {restore} def save {p} exec", Check.INVALID, "save1");
        Check.fails("/p {restore} def save [7] {pop p} forall", Check.INVALID, "save1");
        Check.fresh("{restore} save exch exec", "").used(3, 0);
        Check.fresh("{restore} save exch stopped", "false").used(3, 0);
        Check.fresh("/p {restore} def save p", "").used(3, 0);
        Check.fresh("{restore 5} save {1} pop exch exec", "5").used(3, 0).used(0, 2);
        Check.fresh("/s save def {7} stopped [1 2] {pop} forall {stop} stopped 2 {} repeat clear s restore", "").used(0, 0);
        Check.fresh("/s save def {[1] {stop} forall} stopped clear s restore", "").used(0, 0);
        Check.fresh("/s save def {{exit} exec} loop [1] {exit} forall clear s restore", "").used(0, 0);
    }

    /** The failure of a text that may leave what it likes. */
    private static int lastOf(String text) {
        PageScribe scribe = new PageScribe(3, 2);
        Check.writeAll(scribe, text);
        return scribe.run(500);
    }

    /** "all cells TAKEN and DICTS made since are free again; the other cells and DICTS have what they had then". */
    private static void whatGoesBack() {
        Check c = Check.fresh("/a 158 array def a 0 5 put a 157 6 put", "").used(0, 158);
        c.ok("save a 0 /x put a 157 mark put a 80 1.5 put {8} pop [9] pop restore", "").used(0, 158);
        c.ok("a 0 get a 157 get a 80 get", "5 6 0");
        c = Check.fresh("/a 5 def 2 dict dup /b 6 put save", "dict1 save1");
        c.ok("/a 7 def /d 8 def 1 index /b 9 put 1 index /e 10 put 1 dict pop 1 dict pop", "dict1 save1").used(1, 3);
        c.ok("restore dup length exch /b get a currentdict length", "1 6 5 1").used(1, 1);
        c.ok("clear 1 dict dup length", "dict2 0");
        c = Check.fresh("/a 1 def save /a 2 def save /a 3 def save /a 4 def", "save1 save2 save3");
        c.ok("a exch restore a", "save1 save2 4 3").ok("3 -1 roll pop", "save1 4 3").used(3, 2);
        c.ok("3 -1 roll restore a", "4 3 1").used(3, 0);
        c = Check.fresh("/a [1] def save a 0 2 put save a 0 3 put pop a 0 get exch restore a 0 get", "3 1").used(3, 0);
        c = Check.fresh("save 160 array pop restore 160 array", "[160]").used(0, 160);
        c.run("1 array", Check.LIMIT, "[160] 1");
        Check.fresh("save 6 {1 dict pop} repeat restore 6 {1 dict} repeat", "dict1 dict2 dict3 dict4 dict5 dict6");
        Check.fresh("save 20 array dup 0 5 put pop restore 20 array 0 get", "0");
        Check.fresh("save 2 dict /a 5 put restore 2 dict dup length exch /a known", "0 false");
        c = Check.fresh("/a [1.5 2.5] def /b 3.5 def save a 0 4.5 put a 1 mark put /b 5.5 def a 0 get b", "save1 4.5 5.5");
        c.ok("pop pop restore a aload pop b", "1.5 2.5 3.5");
        Check.fresh("{1 save} pop /p {q 5} def /q {save /p load 1 9 put restore} def p", "5");
    }

    /** "nothing else goes back: STACK but for the SAVE, DICT STACK, PAGE, GRAY, PATH and KNOWN WORDS stay". */
    private static void whatStays() {
        Check c = new Check(3, 2);
        c.ok("1 dict save 7 exch", "dict1 7 save1").ok("2 index begin 1 setgray 0 0 moveto 1 0 lineto 1 1 lineto 0 1 lineto fill", "dict1 7 save1");
        c.ok("0.5 setgray 1 0 moveto 2 0 lineto 2 1 lineto 1 1 lineto /word pop restore", "dict1 7");
        c.used(2, 2).used(4, 4).used(5, 1).pixel(0, 0, 15).pixel(1, 0, 0).ok("fill", "dict1 7").pixel(1, 0, 8).pixel(0, 0, 15);
        Check.fresh("save {stop} stopped pop restore fault", "14").fault(Check.STOPPED);
        Check.fresh("1 dict begin save end restore currentdict", "dict0").used(2, 1).used(1, 1);
    }
}
