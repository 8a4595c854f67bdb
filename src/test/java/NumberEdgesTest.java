/** The edges of the STACK's operators and of sums, comparisons and bits, in the document's order. */
public final class NumberEdgesTest {
    /** Texts that push the greatest and the least INT, and the greatest REAL that anything answers. */
    private static final String MOST = "1 31 bitshift not ", LEAST = "1 31 bitshift ", TRILLION = "1000000 1000000 mul ";

    public static void main(String[] args) {
        copies();
        indexes();
        rolls();
        marks();
        emptyAndFull();
        intEdges();
        realEdges();
        division();
        wholes();
        cuts();
        alike();
        orders();
        shifts();
        lives();
        Check.finish();
    }

    private static String upTo(int n) {
        StringBuilder told = new StringBuilder();
        for (int i = 1; i <= n; i++) {
            told.append(i == 1 ? "" : " ").append(i);
        }
        return told.toString();
    }

    /** "n copy: the n VALUES below, once more (RANGE: n is below 0, or so many are not there)". */
    private static void copies() {
        for (int there = 0; there <= 20; there++) {
            for (int n = 0; n <= there; n++) {
                String due = (upTo(there) + " " + fromTo(there - n + 1, there)).trim();
                Check.fresh(upTo(there) + " " + n + " copy", due);
            }
            Twins.refuses("copy", Check.RANGE, upTo(there), "" + (there + 1));
            Twins.refuses("copy", Check.RANGE, upTo(there), "-1");
        }
        Twins.refuses("copy", Check.RANGE, "1 2", MOST);
        Twins.refuses("copy", Check.RANGE, "1 2", LEAST);
        Check.fresh("7.5 {x} 0 get mark 3 copy", "7.5 x mark 7.5 x mark");
    }

    private static String fromTo(int first, int last) {
        StringBuilder told = new StringBuilder();
        for (int i = first; i <= last; i++) {
            told.append(i == first ? "" : " ").append(i);
        }
        return told.toString();
    }

    /** "n index: that one .. which has n others of them above it (RANGE: n is below 0, or there is none such)". */
    private static void indexes() {
        for (int n = 0; n < 39; n++) {
            Check c = Check.fresh(upTo(39).replaceAll(" ?3[0-9]", ""), upTo(29)).ok(fromTo(30, 39), upTo(39));
            c.ok(n + " index", upTo(39) + " " + (39 - n));
        }
        for (int there = 0; there <= 3; there++) {
            Twins.refuses("index", Check.RANGE, upTo(there), "" + there);
            Twins.refuses("index", Check.RANGE, upTo(there), "" + (there + 1));
            Twins.refuses("index", Check.RANGE, upTo(there), "-1");
        }
        Twins.refuses("index", Check.RANGE, "1 2", MOST);
        Twins.refuses("index", Check.RANGE, "1 2", LEAST);
    }

    /** "n j roll: the n VALUES below (RANGE as for copy) go j places up each, round about (j below 0: down)". */
    private static void rolls() {
        for (int n = 0; n <= 5; n++) {
            for (int j = -12; j <= 12; j++) {
                Check.fresh("8 9 " + upTo(n) + " " + n + " " + j + " roll", ("8 9 " + rolled(n, j)).trim());
            }
            Twins.refuses("roll", Check.RANGE, upTo(n), (n + 1) + " 1");
            Twins.refuses("roll", Check.RANGE, upTo(n), (n + 1) + " 0");
            Twins.refuses("roll", Check.RANGE, upTo(n), "-1 0");
        }
        int[] widths = {1, 2, 3, 5, 7};
        for (int n : widths) {
            Check.fresh(upTo(n) + " " + n + " " + MOST + "roll", rolled(n, Integer.MAX_VALUE));
            Check.fresh(upTo(n) + " " + n + " " + LEAST + "roll", rolled(n, Integer.MIN_VALUE));
        }
        Twins.refuses("roll", Check.RANGE, "1 2", MOST + "1");
        Twins.refuses("roll", Check.RANGE, "1 2", LEAST + "1");
        Check c = Check.fresh(upTo(30), upTo(30)).ok(fromTo(31, 38), upTo(38));
        c.ok("38 1 roll", "38 " + upTo(37)).ok("38 -1 roll", upTo(38)).run("39 1 roll", Check.RANGE, upTo(38) + " 39 1");
    }

    /** VALUE i, from 0 at the bottom, goes to place i + j, round about. */
    private static String rolled(int n, long j) {
        String[] places = new String[n];
        for (int i = 0; i < n; i++) {
            places[(int) Math.floorMod(i + j, (long) n)] = "" + (i + 1);
        }
        return String.join(" ", places);
    }

    /** "cleartomark: the topmost MARK goes, and all above it (UNMATCHED: there is none)"; "]" likewise, or LIMIT. */
    private static void marks() {
        Twins.refuses("cleartomark", Check.UNMATCHED);
        Twins.refuses("cleartomark", Check.UNMATCHED, "1 2 {mark} [ 3 cleartomark");
        Check.fresh("mark cleartomark", "");
        Check.fresh("mark 1 2 mark cleartomark", "mark 1 2");
        Check.fresh("mark 1 2 mark 3 4 cleartomark cleartomark", "");
        Check.fresh("[" + " 7".repeat(39) + " cleartomark", "");
        Twins.refuses("]", Check.UNMATCHED);
        Twins.refuses("]", Check.UNMATCHED, "1 2 [3] pop");
        Check.fresh("[]", "[0]").used(0, 0);
        Check.fresh("[" + " 7".repeat(39) + " ]", "[39]").used(0, 39);
        Check.fresh("[[]]", "[1]").used(0, 1);
        Check.fresh("mark 1 mark 2 3 ]", "mark 1 [2]").used(0, 2);
        Check.fresh("mark 1 mark ] ]", "[2]").used(0, 2);
        Check.fresh("158 array [ 1 2 ]", "[158] [2]").used(0, 160);
        Twins.refuses("]", Check.LIMIT, "158 array [ 1 2 3");
        Twins.refuses("]", Check.LIMIT, "160 array [ 1");
        Check.fresh("160 array []", "[160] [0]").used(0, 160);
    }

    /** The empty STACK, and the STACK with 40 VALUES. */
    private static void emptyAndFull() {
        Check.fresh("clear count", "0").ok("clear clear", "");
        Twins.refuses("pop", Check.UNDERFLOW);
        Twins.refuses("dup", Check.UNDERFLOW);
        Twins.refuses("exch", Check.UNDERFLOW, "7");
        Check.fresh("7 pop", "");
        Check c = Check.fresh(upTo(30), upTo(30)).ok(fromTo(31, 39), upTo(39));
        c.ok("count", upTo(39) + " 39").run("count", Check.OVERFLOW, upTo(39) + " 39").ok("pop 40", upTo(40));
        c.run("41", Check.OVERFLOW, upTo(40));
        Check.same("depth", 40, c.scribe.depth());
        c.ok("clear count", "0");
        c = new Check().ok(Check.times(36, "7"), Check.times(36, "7"));
        c.ok("4 5 6 8", Check.times(36, "7") + " 4 5 6 8").ok("exch", Check.times(36, "7") + " 4 5 8 6");
    }

    /** "of two INTS exact, an INT if it is one of 32 bits, else the REAL that is the double of it". */
    private static void intEdges() {
        Check.fresh(MOST + "0 add", "2147483647");
        Check.fresh(MOST + "1 add", "2.147483648E9");
        Check.fresh("1 " + MOST + "add", "2.147483648E9");
        Check.fresh(MOST + "dup add", "4.294967294E9");
        Check.fresh(LEAST + "0 add", "-2147483648");
        Check.fresh(LEAST + "-1 add", "-2.147483649E9");
        Check.fresh(LEAST + "dup add", "-4.294967296E9");
        Check.fresh(MOST + LEAST + "add", "-1");
        Check.fresh(LEAST + "1 sub", "-2.147483649E9");
        Check.fresh(LEAST + "0 sub", "-2147483648");
        Check.fresh("-1 " + MOST + "sub", "-2147483648");
        Check.fresh("-2 " + MOST + "sub", "-2.147483649E9");
        Check.fresh("-1 " + LEAST + "sub", "2147483647");
        Check.fresh("0 " + LEAST + "sub", "2.147483648E9");
        Check.fresh(MOST + "-1 sub", "2.147483648E9");
        Check.fresh("65536 32768 mul", "2.147483648E9");
        Check.fresh("65536 -32768 mul", "-2147483648");
        Check.fresh("46341 46341 mul", "2.147488281E9");
        Check.fresh("46340 46341 mul", "2147441940");
        Check.fresh(LEAST + "-1 mul", "2.147483648E9");
        Check.fresh(LEAST + "1 mul", "-2147483648");
        Check.fresh(MOST + "-1 mul", "-2147483647");
        Check.fresh("65537 -32768 mul", "-2.147516416E9");
        Check.fresh(LEAST + "neg", "2.147483648E9");
        Check.fresh(MOST + "neg", "-2147483647");
        Check.fresh("0 neg", "0");
        Check.fresh(LEAST + "-1 idiv", "2.147483648E9");
        Check.fresh(LEAST + "1 idiv", "-2147483648");
        Check.fresh(MOST + "-1 idiv", "-2147483647");
        Check.fresh(LEAST + "-1 mod", "0");
        Check.fresh(LEAST + LEAST + "idiv", "1");
        Check.fresh(MOST + LEAST + "idiv", "0");
        Check.fresh(MOST + LEAST + "mod", "2147483647");
        Check.fresh(LEAST + MOST + "mod", "-1");
    }

    private static Check fed(double... values) {
        Check c = new Check();
        for (double v : values) {
            Check.same("feed " + v, true, c.scribe.feed(v));
        }
        return c;
    }

    /** "RANGE: a REAL above 1e12 or below -1e12 would come of any of these". */
    private static void realEdges() {
        double most = 1e12;
        double step = Math.ulp(1e12);
        fed(most - step, step).ok("add", "1.0E12");
        fed(most, step).run("add", Check.RANGE, most + " " + step);
        fed(most - step, 2 * step).run("add", Check.RANGE, (most - step) + " " + 2 * step);
        fed(-most, -step).run("add", Check.RANGE, -most + " " + -step);
        fed(step - most, -step).ok("add", "-1.0E12");
        fed(most, -step).run("sub", Check.RANGE, most + " " + -step);
        fed(-most, step).run("sub", Check.RANGE, -most + " " + step);
        fed(step - most, step).ok("sub", "-1.0E12");
        fed(most, 1.0).ok("mul", "1.0E12");
        fed(most, Math.nextUp(1.0)).run("mul", Check.RANGE, most + " " + Math.nextUp(1.0));
        fed(most, -Math.nextUp(1.0)).run("mul", Check.RANGE, most + " " + -Math.nextUp(1.0));
        fed(-most, 1.0).ok("mul", "-1.0E12");
        fed(most, 1.0).ok("div", "1.0E12");
        fed(most, Math.nextDown(1.0)).run("div", Check.RANGE, most + " " + Math.nextDown(1.0));
        fed(-most, Math.nextDown(1.0)).run("div", Check.RANGE, -most + " " + Math.nextDown(1.0));
        fed(most).ok("neg", "-1.0E12").ok("neg", "1.0E12").ok("cvr", "1.0E12").ok("floor", "1.0E12").ok("round", "1.0E12");
        fed(-most).ok("floor", "-1.0E12").ok("round", "-1.0E12").ok("cvr", "-1.0E12");
        fed(step - most).ok("floor", "-1.0E12");
        fed(most - step).ok("round", "1.0E12");
        Check.fresh(TRILLION, "1.0E12").ok("1000000 -1000000 mul", "1.0E12 -1.0E12");
        Twins.refuses("mul", Check.RANGE, "1000001 1000000");
        Twins.refuses("mul", Check.RANGE, "-1000001 1000000");
        Twins.refuses("mul", Check.RANGE, LEAST + LEAST);
        Twins.refuses("mul", Check.RANGE, TRILLION + TRILLION);
        Twins.refuses("add", Check.RANGE, TRILLION + "1");
        Twins.refuses("sub", Check.RANGE, TRILLION + "neg 1");
        Twins.refuses("div", Check.RANGE, TRILLION + "0.5");
    }

    /** "a b div .. (DIVIDED: b is 0). i j idiv, mod (DIVIDED: j is 0): towards 0, as in Java". */
    private static void division() {
        String[] zeros = {"0", "0.0", "-0.0"};
        for (String zero : zeros) {
            Twins.refuses("div", Check.DIVIDED, "7 " + zero);
            Twins.refuses("div", Check.DIVIDED, "7.5 " + zero);
            Twins.refuses("div", Check.DIVIDED, "0 " + zero);
        }
        fed(3.0, -0.0).run("div", Check.DIVIDED, "3.0 -0.0");
        fed(3.0, Double.MIN_VALUE).run("div", Check.RANGE, "3.0 4.9E-324");
        fed(0.0, Double.MIN_VALUE).ok("div", "0.0");
        fed(Double.MIN_VALUE, 2.0).ok("div", "0.0");
        Twins.refuses("idiv", Check.DIVIDED, "7 0");
        Twins.refuses("mod", Check.DIVIDED, "7 0");
        Twins.refuses("idiv", Check.DIVIDED, LEAST + "0");
        Check.fresh("0 7 idiv 0 7 mod 0 -7 idiv 0 -7 mod", "0 0 0 0");
        for (int i = -7; i <= 7; i++) {
            for (int j = -3; j <= 3; j++) {
                if (j != 0) {
                    Check.fresh(i + " " + j + " idiv " + i + " " + j + " mod", i / j + " " + i % j);
                    Check.fresh(i + " " + j + " div", "" + (double) i / (double) j);
                }
            }
        }
    }

    /** "floor, .. round: an INT stays; the greatest whole REAL that is not above a, above a + 0.5". */
    private static void wholes() {
        double[] values = {0.0, 0.25, 0.4999, 0.5, 0.75, 1.0, 1.5, 2.0, 2.5, 1e9 + 0.5, 2147483648.5, 999999999999.5, 999999999999.25,
            Math.nextDown(1.0), Math.nextUp(1.0), Math.nextDown(0.5), Math.nextUp(0.5), Math.nextDown(2.5), Double.MIN_VALUE};
        for (double v : values) {
            fed(v).ok("floor", "" + Math.floor(v));
            fed(-v).ok("floor", "" + (Math.floor(-v) + 0.0));
            fed(v).ok("round", "" + Math.floor(v + 0.5));
            fed(-v).ok("round", "" + (Math.floor(-v + 0.5) + 0.0));
        }
        Check.fresh(MOST + "floor " + LEAST + "round 0 floor -7 round", "2147483647 -2147483648 0 -7");
        Check.fresh("3.0 floor kind 3.0 round kind 3 floor kind", "1 1 0");
    }

    /** "cvi: an INT: a cut towards 0 (RANGE: that is none of 32 bits). a cvr: a REAL." */
    private static void cuts() {
        fed(2147483647.0).ok("cvi", "2147483647");
        fed(Math.nextDown(2147483648.0)).ok("cvi", "2147483647");
        fed(2147483648.0).run("cvi", Check.RANGE, "2.147483648E9");
        fed(-2147483648.0).ok("cvi", "-2147483648");
        fed(Math.nextUp(-2147483649.0)).ok("cvi", "-2147483648");
        fed(-2147483649.0).run("cvi", Check.RANGE, "-2.147483649E9");
        fed(4294967296.0).run("cvi", Check.RANGE, "4.294967296E9");
        fed(1e12).run("cvi", Check.RANGE, "1.0E12");
        fed(-1e12).run("cvi", Check.RANGE, "-1.0E12");
        fed(0.9999, -0.9999, 1.0, -1.0, -0.0).ok("cvi 5 1 roll cvi 5 1 roll cvi 5 1 roll cvi 5 1 roll cvi 5 1 roll", "0 0 1 -1 0");
        Twins.refuses("cvi", Check.RANGE, LEAST + "neg");
        Check.fresh(MOST + "cvi " + LEAST + "cvi", "2147483647 -2147483648");
        Check.fresh(MOST + "cvr " + LEAST + "cvr 0 cvr", "2.147483647E9 -2.147483648E9 0.0");
    }

    private static final String[] UNLIKE = {"0", "1", "0.5", "true", "false", "/a", "/b", "mark", "[]", "1 array", "{7}", "currentdict",
        "1 dict", "save", "s"};

    /** "x y eq, ne: whether they are alike, or not .. others are not". */
    private static void alike() {
        for (int i = 0; i < UNLIKE.length; i++) {
            for (int j = 0; j < UNLIKE.length; j++) {
                if (i != j) {
                    Check.fresh("/s save def " + UNLIKE[i] + " " + UNLIKE[j] + " eq", "false");
                    Check.fresh("/s save def " + UNLIKE[i] + " " + UNLIKE[j] + " ne", "true");
                }
            }
            Check.fresh("/s save def " + UNLIKE[i] + " dup eq", "true");
            Check.fresh("/s save def " + UNLIKE[i] + " dup ne", "false");
        }
        Check.fresh("0 0.0 eq 1 1.0 eq 1 1.0001 eq", "true true false");
        Check.fresh(MOST + "dup cvr eq " + LEAST + "dup cvr eq", "true true");
        fed(0.0, -0.0).ok("eq", "true");
        fed(1.0, Math.nextUp(1.0)).ok("eq", "false");
        Check.fresh("/a dup cvx eq /abcdefgh /abcdefgz eq /abcdefg /abcdefgh eq /pop /pop cvx eq", "true false false true");
        Check.fresh("{[} 0 get {]} 0 get eq", "false");
        Check.fresh("[] {} eq 0 array [] eq [1] 1 0 getinterval [2 3] 2 0 getinterval eq", "true true true");
        Check.fresh("[1 2] dup 0 1 getinterval 1 index 1 1 getinterval eq", "[2] false");
        Check.fresh("[1 2] dup 0 1 getinterval 1 index 0 1 getinterval cvx eq", "[2] true");
        Check.fresh("[1 2] dup 0 1 getinterval eq [1] [1] eq", "false false");
        Check.fresh("[1] dup 0 1 getinterval eq 1 dict 1 dict eq save save eq", "true false false");
        Check.fresh("currentdict begin currentdict end currentdict eq", "true");
    }

    /** "a b gt, ge, lt, le": below, at and above each other, INTS and REALS. */
    private static void orders() {
        String[] values = {LEAST, "-1", "-0.5", "0", "0.0001", "0.5", "1", "1.0001", MOST, MOST + "1 add", TRILLION};
        for (int i = 0; i < values.length; i++) {
            for (int j = 0; j < values.length; j++) {
                String both = values[i] + " " + values[j] + " ";
                Check.fresh(both + "gt " + both + "ge", (i > j) + " " + (i >= j));
                Check.fresh(both + "lt " + both + "le", (i < j) + " " + (i <= j));
            }
        }
        Check.fresh("1 1.0 gt 1 1.0 ge 1 1.0 lt 1 1.0 le", "false true false true");
    }

    /** "bitshift: .. with j below 0 by -j to the right, zeros coming in; 0 if j is above 31 or below -31". */
    private static void shifts() {
        int[] numbers = {1, -1, 7, Integer.MIN_VALUE, Integer.MAX_VALUE, 999999999, -999999999, 0};
        for (int n : numbers) {
            String text = n == Integer.MIN_VALUE ? LEAST : n == Integer.MAX_VALUE ? MOST : n + " ";
            for (int j = -40; j <= 40; j++) {
                int due = j > 31 || j < -31 ? 0 : j >= 0 ? n << j : n >>> -j;
                Check.fresh(text + j + " bitshift", "" + due);
            }
            Check.fresh(text + MOST + "bitshift " + text + LEAST + "bitshift", "0 0");
            Check.fresh(text + "64 bitshift " + text + "-64 bitshift", "0 0");
        }
        Check.fresh("6 3 and 6 3 or -1 7 and " + LEAST + MOST + "or 0 not -1 not", "2 7 7 -1 -1 0");
        Check.fresh("true true and true false and false true and false false and", "true false false false");
        Check.fresh("true true or true false or false true or false false or", "true true true false");
    }

    /** "x, a NAME or ARRAY being LIVE then, or not; others as they are". */
    private static void lives() {
        String[] values = {"5", "1.5", "true", "mark", "currentdict", "save"};
        String[] told = {"5", "1.5", "true", "mark", "dict0", "save1"};
        for (int i = 0; i < values.length; i++) {
            Check.fresh(values[i] + " cvx", told[i]);
            Check.fresh(values[i] + " cvlit", told[i]);
            Check.fresh(values[i] + " cvx xcheck", "false");
        }
        Check.fresh("/a cvlit /a cvx {b} 0 get cvlit {b} 0 get cvx", "/a a /b b");
        Check.fresh("[] cvlit [] cvx {} cvlit {} cvx", "[0] {0} [0] {0}");
        Check.fresh("/a xcheck /a cvx xcheck [] xcheck {} xcheck [1] cvx xcheck {1} cvlit xcheck", "false true false true true false");
        Check.fresh("/a kind /a cvx kind [] kind {} kind mark kind currentdict kind save kind", "3 3 5 5 4 6 7");
    }
}
