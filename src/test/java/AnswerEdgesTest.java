/** The edges of feed, depth, kind, number, real, letter, used, and of the calls that may be asked again and again. */
public final class AnswerEdgesTest {
    public static void main(String[] args) {
        feeds();
        depths();
        everyPlace();
        numbers();
        reals();
        letters();
        usedEmptyAndFull();
        usedOthers();
        askingChangesNothing();
        lastCalls();
        Check.finish();
    }

    /** "Pushes a REAL: true; false when 40 VALUES are there, or v is not -1e12 .. 1e12". */
    private static void feeds() {
        double[] fine = {1e12, -1e12, Math.nextDown(1e12), -Math.nextDown(1e12), 0.0, -0.0, Double.MIN_VALUE, -Double.MIN_VALUE, 5.0};
        double[] not = {Math.nextUp(1e12), -Math.nextUp(1e12), 1e13, Double.MAX_VALUE, -Double.MAX_VALUE, Double.POSITIVE_INFINITY,
            Double.NEGATIVE_INFINITY, Double.NaN};
        for (double v : fine) {
            Check c = new Check();
            Check.same("feed " + v, true, c.scribe.feed(v));
            Check.same("depth", 1, c.scribe.depth());
            Check.same("kind of " + v, 1, c.scribe.kind(0));
            Check.same("real of " + v, v, c.scribe.real(0));
            Check.same("number of " + v, "IllegalStateException", Check.thrownBy(() -> c.scribe.number(0)));
        }
        for (double v : not) {
            Check c = Check.fresh("7", "7");
            Check.same("feed " + v, false, c.scribe.feed(v));
            c.fault(0).steps(1).ok("", "7");
        }
        for (int there = 38; there <= 40; there++) {
            Check c = Check.fresh(Check.times(there, "7"), Check.times(there, "7"));
            Check.same("feed at " + there, there < 40, c.scribe.feed(1.5));
            Check.same("bad feed at " + there, false, c.scribe.feed(2e12));
            c.ok("", Check.times(there, "7") + (there < 40 ? " 1.5" : ""));
        }
        Check c = new Check();
        for (int n = 1; n <= 41; n++) {
            Check.same("feed " + n, n <= 40, c.scribe.feed(n));
            Check.same("depth", Math.min(n, 40), c.scribe.depth());
        }
        Check.same("top", 40.0, c.scribe.real(0));
        Check.same("bottom", 1.0, c.scribe.real(39));
        c.fault(0).steps(0);
        c.text("5 /a");
        Check.same("feed beside a text", false, c.scribe.feed(1.0));
        c.used(6, 4);
    }

    /** "How many VALUES are on the STACK": none, and 40. */
    private static void depths() {
        Check c = new Check();
        Check.same("depth", 0, c.scribe.depth());
        for (int n = 1; n <= 42; n++) {
            c.text("mark");
            Check.same("failure of mark " + n, n <= 40 ? 0 : Check.OVERFLOW, c.scribe.run(1));
            Check.same("depth", Math.min(n, 40), c.scribe.depth());
        }
        for (int n = 39; n >= -1; n--) {
            c.text("pop");
            Check.same("failure of pop " + n, n >= 0 ? 0 : Check.UNDERFLOW, c.scribe.run(1));
            Check.same("depth", Math.max(n, 0), c.scribe.depth());
        }
    }

    private static void notThere(Check c, int k) {
        Check.same("kind " + k, "IndexOutOfBoundsException", Check.thrownBy(() -> c.scribe.kind(k)));
        Check.same("number " + k, "IndexOutOfBoundsException", Check.thrownBy(() -> c.scribe.number(k)));
        Check.same("real " + k, "IndexOutOfBoundsException", Check.thrownBy(() -> c.scribe.real(k)));
        Check.same("letter " + k, -1, c.scribe.letter(k, 0));
    }

    /** "VALUE k of the STACK, from the top, which is 0 .. IndexOutOfBoundsException when there is none". */
    private static void everyPlace() {
        int[] far = {Integer.MIN_VALUE, -40, -1, 40, 41, Integer.MAX_VALUE};
        for (int there = 0; there <= 40; there += there < 3 || there >= 38 ? 1 : 5) {
            Check c = new Check();
            for (int i = 0; i < there; i++) {
                c.scribe.feed(i);
            }
            for (int k = 0; k < there; k++) {
                Check.same("real " + k + " of " + there, (double) (there - 1 - k), c.scribe.real(k));
                Check.same("kind " + k + " of " + there, 1, c.scribe.kind(k));
            }
            notThere(c, there);
            notThere(c, there + 1);
            for (int k : far) {
                notThere(c, k);
            }
        }
        Check gone = Check.fresh("/a 5", "/a 5").ok("pop pop", "");
        notThere(gone, 0);
        notThere(gone, 1);
    }

    private static Check one(String text) {
        Check c = new Check();
        c.text(text);
        Check.same("failure of " + text, 0, c.scribe.run(500));
        return c;
    }

    /** "The kind ..; 8 more when it is LIVE"; "an INT; 1 or 0 for a BOOLEAN; how many characters a NAME has (/ is none); 0 for a MARK; ..". */
    private static void numbers() {
        Object[][] rows = {{"0", 0, 0}, {"-1", 0, -1}, {"999999999", 0, 999999999}, {"1 31 bitshift", 0, Integer.MIN_VALUE}, {"1 31 bitshift not", 0, Integer.MAX_VALUE},
            {"true", 2, 1}, {"false", 2, 0}, {"1 1 eq", 2, 1}, {"true not", 2, 0}, {"/a", 3, 1}, {"/abcdefgh", 3, 8}, {"/cleartomark", 3, 11}, {"/if", 3, 2},
            {"{a} 0 get", 11, 1}, {"{abcdefgh} 0 get", 11, 8}, {"{getinterval} 0 get", 11, 11}, {"{[} 0 get", 11, 1}, {"{]} 0 get", 11, 1}, {"{[} 0 get cvlit", 3, 1},
            {"mark", 4, 0}, {"[", 4, 0}, {"[]", 5, 0}, {"[7]", 5, 1}, {"160 array", 5, 160}, {"{}", 13, 0}, {"{7 8}", 13, 2}, {"[7] cvx", 13, 1}, {"{7} cvlit", 5, 1},
            {"160 array 3 155 getinterval", 5, 155}, {"currentdict", 6, 0}, {"1 dict", 6, 1}, {"6 {1 dict} repeat", 6, 6}, {"save", 7, 1}, {"save restore save", 7, 2}};
        for (Object[] row : rows) {
            Check c = one((String) row[0]);
            Check.same("kind of " + row[0], row[1], c.scribe.kind(0));
            Check.same("number of " + row[0], row[2], c.scribe.number(0));
            boolean isName = (Integer) row[1] % 8 == 3;
            Check.same("letter of " + row[0], !isName, c.scribe.letter(0, 0) == -1);
        }
        String[] reals = {"1.5", "0.0", "5 cvr", "1 2 div"};
        for (String real : reals) {
            Check c = one(real);
            Check.same("kind of " + real, 1, c.scribe.kind(0));
            Check.same("number of " + real, "IllegalStateException", Check.thrownBy(() -> c.scribe.number(0)));
        }
    }

    /** "VALUE k of the STACK, a number, as a double .. IllegalStateException when it is no number". */
    private static void reals() {
        Check.same("INT", -5.0, one("-5").scribe.real(0));
        Check.same("least INT", -2147483648.0, one("1 31 bitshift").scribe.real(0));
        Check.same("greatest INT", 2147483647.0, one("1 31 bitshift not").scribe.real(0));
        Check.same("REAL", 999999999.9999, one("999999999.9999").scribe.real(0));
        Check.same("0", 0.0, one("0").scribe.real(0));
        Check.same("greatest REAL", 1e12, one("1000000 1000000 mul").scribe.real(0));
        String[] no = {"true", "false", "/a", "{a} 0 get", "mark", "[7]", "{7}", "currentdict", "save"};
        for (String text : no) {
            Check c = one(text);
            Check.same("real of " + text, "IllegalStateException", Check.thrownBy(() -> c.scribe.real(0)));
            c.ok("pop 5", "5");
            Check.same("real of 5", 5.0, c.scribe.real(0));
        }
    }

    /** "Character i, from 0, of VALUE k (of a NAME as it is written, [ and ] too); -1 when it is no NAME, or there is none such". */
    private static void letters() {
        String[] words = {"a", "z", "az", "abcdefgh", "zyxwvuts", "if", "cleartomark", "[", "]", "pop", "eofill", "exch"};
        for (String word : words) {
            boolean bracket = word.equals("[") || word.equals("]");
            String[] texts = {"{" + word + "} 0 get", bracket ? "{" + word + "} 0 get cvlit" : "/" + word};
            for (String text : texts) {
                Check c = one("7 " + text);
                for (int i = 0; i < word.length(); i++) {
                    Check.same("letter " + i + " of " + text, (int) word.charAt(i), c.scribe.letter(0, i));
                }
                int[] not = {-1, word.length(), word.length() + 1, 8, 11, 12, 40, Integer.MIN_VALUE, Integer.MAX_VALUE};
                for (int i : not) {
                    if (i < 0 || i >= word.length()) {
                        Check.same("letter " + i + " of " + text, -1, c.scribe.letter(0, i));
                    }
                }
                Check.same("letter of the INT below", -1, c.scribe.letter(1, 0));
                Check.same("letter of none", -1, c.scribe.letter(2, 0));
                Check.same("letter of none", -1, c.scribe.letter(-1, 0));
            }
        }
        Check c = Check.fresh("/abcdefgh /b /ccc", "/abcdefgh /b /ccc");
        Check.same("a", (int) 'a', c.scribe.letter(2, 0));
        Check.same("h", (int) 'h', c.scribe.letter(2, 7));
        Check.same("b", (int) 'b', c.scribe.letter(1, 0));
        Check.same("c", (int) 'c', c.scribe.letter(0, 2));
    }

    /** used: each thing that it counts, when it is empty and when it is full. */
    private static void usedEmptyAndFull() {
        Check c = new Check().used(0, 0).used(1, 0).used(2, 1).used(3, 0).used(4, 0).used(5, 0).used(6, 0);
        c.ok("6 {1 dict} repeat", "dict1 dict2 dict3 dict4 dict5 dict6").used(0, 2).used(1, 6).used(2, 1);
        c.ok("begin begin begin begin begin", "dict1").used(2, 6).used(1, 6);
        c.ok("3 {save} repeat", "dict1 save1 save2 save3").used(3, 3).used(0, 3);
        c.ok("30 {1 1 moveto} repeat clear", "").used(4, 30).used(0, 6);
        c.ok("154 array pop", "").used(0, 160);
        for (int i = 0; i < 40; i += 10) {
            StringBuilder text = new StringBuilder();
            for (int w = i; w < i + 10; w++) {
                text.append('/').append((char) ('a' + w / 10)).append((char) ('a' + w % 10));
            }
            c.ok(text + " clear", "").used(5, i + 10);
        }
        c.text(" ".repeat(120)).used(0, 160).used(1, 6).used(2, 6).used(3, 3).used(4, 30).used(5, 40).used(6, 120);
        c.ok("", "").used(0, 160).used(1, 6).used(2, 6).used(3, 3).used(4, 30).used(5, 40).used(6, 0);
        c.ok("end end end end end newpath", "").used(2, 1).used(4, 0);
    }

    /** "-1 for another number". */
    private static void usedOthers() {
        int[] others = {-1, 7, 8, 100, Integer.MIN_VALUE, Integer.MAX_VALUE};
        Check c = Check.fresh("[1 2] 1 dict begin save /x 1 1 moveto", "[2] save1 /x");
        for (int other : others) {
            c.used(other, -1);
        }
        c.used(0, 2).used(1, 1).used(2, 2).used(3, 1).used(4, 1).used(5, 1).used(6, 0);
    }

    /** The calls that only tell change nothing, and a run that is refused is no run. */
    private static void askingChangesNothing() {
        Check c = Check.fresh("/a 5 1.5 [7]", "/a 5 1.5 [1]").steps(6);
        for (int turn = 0; turn < 5; turn++) {
            notThere(c, 4);
            c.scribe.letter(3, 1);
            c.scribe.pixel(0, 0);
            Check.thrownBy(() -> c.scribe.run(0));
            Check.thrownBy(() -> c.scribe.real(0));
            Check.thrownBy(() -> c.scribe.number(1));
            c.steps(6).fault(0).used(0, 1).used(5, 1);
        }
        c.ok("", "/a 5 1.5 [1]").steps(0);
    }

    /** "An object is used for at most 512 calls after it has been made": the last ones answer as the first. */
    private static void lastCalls() {
        PageScribe scribe = new PageScribe(3, 2);
        for (int turn = 1; turn <= 127; turn++) {
            Check.same("write of turn " + turn, true, scribe.write(Check.packed("save {5}")));
            Check.same("write of turn " + turn, true, scribe.write(Check.packed("exec pop")));
            Check.same("write of turn " + turn, true, scribe.write(Check.packed(" restore")));
            Check.same("run of turn " + turn, 0, scribe.run(6));
        }
        Check.same("509th call", true, scribe.write(Check.packed("save")));
        Check.same("510th call", 0, scribe.run(1));
        Check.same("511th call", 7, scribe.kind(0));
        Check.same("512th call", 128, scribe.number(0));
    }
}
