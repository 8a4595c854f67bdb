/** The edges of the text, its TOKENS and the KNOWN WORDS, in the document's order; its sentences stand in quotes. */
public final class TextEdgesTest {
    public static void main(String[] args) {
        mostCharacters();
        bytesTaken();
        fuels();
        digits();
        decimals();
        minus();
        points();
        lettersOfWords();
        operatorsWords();
        slashes();
        openBraces();
        cellsForProcedures();
        endWithinProcedure();
        blanks();
        badPlaces();
        mostWords();
        oneByOne();
        Check.finish();
    }

    /** "THE TEXT has at most 120 characters"; write: "False, refused, when .. there would be more than 120". */
    private static void mostCharacters() {
        for (int before = 108; before <= 120; before++) {
            for (int more = 0; more <= 8; more++) {
                Check c = new Check();
                c.text(" ".repeat(before));
                boolean fits = before + more <= 120;
                Check.same(before + " and " + more, fits, c.scribe.write(Check.packed("12345678".substring(0, more))));
                c.used(6, fits ? before + more : before);
                boolean room = c.scribe.used(6) < 120;
                Check.same("one more at " + c.scribe.used(6), room, c.scribe.write('9'));
                String due = (fits ? "12345678".substring(0, more) : "") + (room ? "9" : "");
                boolean tooLong = due.length() > 9;
                c.run("", tooLong ? Check.SYNTAX : 0, tooLong ? "" : due).used(6, 0);
            }
        }
        Check c = new Check();
        c.ok("{[} 0 get 0 def", "").text("[".repeat(120)).used(6, 120);
        Check.same("121st", false, c.scribe.write(' '));
        c.run("", Check.OVERFLOW, Check.times(40, "0")).used(6, 0);
        c.text(" ".repeat(120)).used(6, 120).run("", 0, Check.times(40, "0"));
    }

    /** "when a byte is neither 0 nor 32 .. 126": the last ones taken and the first ones refused, with good bytes round them. */
    private static void bytesTaken() {
        int[] bytes = {0, 1, 9, 10, 13, 31, 32, 33, 125, 126, 127, 128, 160, 254, 255};
        for (int one : bytes) {
            boolean due = one == 0 || one >= 32 && one <= 126;
            for (int place = 0; place < 8; place++) {
                Check c = new Check();
                c.text("5 ");
                long eight = 0x3132333435363738L & ~(255L << 8 * place) | (long) one << 8 * place;
                Check.same("byte " + one + " at " + place, due, c.scribe.write(eight));
                c.used(6, 2 + (due ? one == 0 ? 7 : 8 : 0));
                if (!due) {
                    c.run("", 0, "5");
                }
            }
        }
        Check c = new Check();
        Check.same("only zeros", true, c.scribe.write(0));
        c.used(6, 0);
        Check.same("least long", false, c.scribe.write(Long.MIN_VALUE));
        Check.same("most long", false, c.scribe.write(Long.MAX_VALUE));
        Check.same("eight ~", true, c.scribe.write(0x7E7E7E7E7E7E7E7EL));
        Check.same("eight blanks", true, c.scribe.write(0x2020202020202020L));
        c.used(6, 16).run("", Check.SYNTAX, "");
    }

    /** "with a fuel of 1 .. 500 .. IllegalArgumentException for another fuel (the text stays)". */
    private static void fuels() {
        int[] wrong = {0, -1, 501, 1000, Integer.MIN_VALUE, Integer.MAX_VALUE};
        Check c = new Check();
        c.run(2, "1 pop stop", Check.TIRED, "").steps(2).text("7 8 stop");
        for (int fuel : wrong) {
            Check.same("fuel " + fuel, "IllegalArgumentException", Check.thrownBy(() -> c.scribe.run(fuel)));
            c.used(6, 8).steps(2).fault(Check.TIRED);
            Check.same("depth", 0, c.scribe.depth());
        }
        c.run(500, "", Check.STOPPED, "7 8").used(6, 0).steps(3);
        new Check().run(1, "7", 0, "7").steps(1);
        new Check().run(499, "{} loop", Check.TIRED, "").steps(499);
        new Check().run(500, "{} loop", Check.TIRED, "").steps(500);
    }

    /** "an INT (one to nine digits, as long as they go on, maybe - before them)"; "more digits than nine .. are SYNTAX at once". */
    private static void digits() {
        String digits = "9876543210";
        for (int n = 1; n <= 9; n++) {
            String some = digits.substring(0, n);
            Check.fresh(some, some);
            Check.fresh("-" + some, "-" + some);
            Check.fresh("5 -" + some + "/a", "5 -" + some + " /a");
            Check.fresh("0".repeat(n), "0");
            Check.fresh("0".repeat(n - 1) + "7", "7");
            Check.fresh(some + ".5", Double.parseDouble(some + ".5") + "");
        }
        String[] tooMany = {digits, "-" + digits, "0000000000", "0000000001", digits + ".5", "-" + digits + ".5", digits + digits, digits + "a"};
        for (String many : tooMany) {
            Check.fails("5 " + many, Check.SYNTAX, "5").steps(1);
            Check.fails("5 {" + many + "}", Check.SYNTAX, "5").used(0, 0);
        }
    }

    /** "a REAL (such digits, . and one to four digits .. divided by 10.0, 100.0, 1000.0 or 10000.0 ..)"; five are SYNTAX. */
    private static void decimals() {
        double[] by = {10.0, 100.0, 1000.0, 10000.0};
        int[] behind = {9, 98, 987, 9876};
        for (int n = 1; n <= 4; n++) {
            double due = 7.0 + behind[n - 1] / by[n - 1];
            Check.fresh("7." + behind[n - 1], "" + due);
            Check.fresh("-7." + behind[n - 1], "" + (0.0 - due));
            Check.fresh("999999999." + behind[n - 1], "" + (999999999.0 + behind[n - 1] / by[n - 1]));
            Check.fresh("3." + "0".repeat(n), "3.0");
            Check.fresh("0." + "0".repeat(n - 1) + "1", "" + 1.0 / by[n - 1]);
        }
        Check.fails("6 7.98765", Check.SYNTAX, "6");
        Check.fails("6 -7.98765", Check.SYNTAX, "6");
        Check.fails("6 7.00000", Check.SYNTAX, "6");
        Check.fails("6 7.123456789", Check.SYNTAX, "6");
        Check.fails("6 {7.12345}", Check.SYNTAX, "6");
        Check.fails("6 1234567890.12345", Check.SYNTAX, "6");
    }

    /** "maybe - before them": alone, twice, or away from its digits it belongs to nothing. */
    private static void minus() {
        String[] wrong = {"-", "--5", "- 5", "-a", "-/a", "-.5", "-[", "-{}", "5 - 6", "5-"};
        for (String one : wrong) {
            Check.fails(one, Check.SYNTAX, one.startsWith("5") ? "5" : "");
        }
        Check.fresh("5-6", "5 -6");
        Check.fresh("5.5-6.5", "5.5 -6.5");
        Check.fresh("[-5]-6", "[1] -6");
        Check.fresh("/a-6", "/a -6");
        Check.fresh("-0 -0.0", "0 0.0");
    }

    /** "a point without a digit behind it belongs to no number": the INT before it is done, then it is SYNTAX. */
    private static void points() {
        String[] rows = {"5.", "5. 5", "5.a", "5.-5", "5..5", "5./a", "5.[", "5.{}"};
        for (String row : rows) {
            Check.fails(row, Check.SYNTAX, "5").steps(1);
        }
        Check.fails("-5.", Check.SYNTAX, "-5");
        Check.fails("123456789.", Check.SYNTAX, "123456789");
        Check.fails("5.5.", Check.SYNTAX, "5.5");
        Check.fails("5.5.5", Check.SYNTAX, "5.5");
        Check.fails(".5", Check.SYNTAX, "");
        Check.fails("{5.}", Check.SYNTAX, "");
    }

    /** "a WORD (letters a .. z, as long as they go on, at most 8 if it is none of the operators', else SYNTAX: a LIVE NAME)". */
    private static void lettersOfWords() {
        String letters = "azbycxdwev";
        for (int n = 1; n <= 8; n++) {
            String word = letters.substring(0, n);
            Check.fresh("/" + word, "/" + word).used(5, 1);
            Check.fails(word, Check.UNDEFINED, "").used(5, 1).steps(1);
            Check.fresh("{" + word + "} 0 get", word).used(5, 1);
            Check.fresh("{/" + word + "} 0 get", "/" + word).used(5, 1);
            Check.fresh("/" + word + " 5 def " + word, "5").used(5, 1);
        }
        String[] tooLong = {letters.substring(0, 9), letters, "z".repeat(26), "getintervals", "closepathh", "cleartomar"};
        for (String word : tooLong) {
            Check.fails("5 " + word, Check.SYNTAX, "5").used(5, 0).steps(1);
            Check.fails("5 /" + word, Check.SYNTAX, "5").used(5, 0);
            Check.fails("5 {" + word + "}", Check.SYNTAX, "5").used(5, 0);
            Check.fails("5 {/" + word + "}", Check.SYNTAX, "5").used(5, 0);
        }
        Check.fails("`", Check.SYNTAX, "");
        Check.fails("{", Check.SYNTAX, "");
        Check.fails("A", Check.SYNTAX, "");
        Check.fails("Z", Check.SYNTAX, "");
        Check.fails("5 aZ", Check.UNDEFINED, "5");
        Check.fails("5 /aZ", Check.SYNTAX, "5 /a");
        Check.fresh("5 /a5", "5 /a 5");
    }

    /** An operator's WORD may have more than 8 letters; one more or less makes it another WORD. */
    private static void operatorsWords() {
        String[] words = {"closepath", "cleartomark", "getinterval", "currentdict"};
        for (String word : words) {
            Check.fresh("/" + word + " {" + word + "} 0 get", "/" + word + " " + word).used(5, 0);
            Check.fails("/" + word + "x", Check.SYNTAX, "").used(5, 0);
        }
        Check.fresh("/closepat /bitshif /ifels /fo /forall /fort", "/closepat /bitshif /ifels /fo /forall /fort").used(5, 5);
        Check.fails("/closepathx", Check.SYNTAX, "");
        Check.fresh("/bitshift", "/bitshift").used(5, 0);
    }

    /** "/ and a WORD right behind it (a NAME that is not LIVE)". */
    private static void slashes() {
        String[] wrong = {"/", "/ a", "//a", "/5", "/-5", "/[", "/]", "/{}", "/.", "/A"};
        for (String one : wrong) {
            Check.fails("5 " + one, Check.SYNTAX, "5").used(5, 0);
            Check.fails("5 {" + one + "}", Check.SYNTAX, "5").used(5, 0);
        }
        Check.fresh("/a/b/pop", "/a /b /pop").used(5, 2);
        Check.fresh("5/a", "5 /a");
    }

    /** "at most 4 { are open at once, else NESTED". */
    private static void openBraces() {
        for (int n = 1; n <= 4; n++) {
            Check.fresh("{".repeat(n) + "}".repeat(n), n == 1 ? "{0}" : "{1}").used(0, n - 1).steps(1);
            Check.fresh("{".repeat(n) + "}".repeat(n) + "{".repeat(n) + "5" + "}".repeat(n), n == 1 ? "{0} {1}" : "{1} {1}");
        }
        Check.fails("5 {{{{{}}}}}", Check.NESTED, "5").used(0, 0).steps(1);
        Check.fails("5 {{{{{", Check.NESTED, "5");
        Check.fails("5 {1 {2 {3 {4 {!", Check.NESTED, "5");
        Check.fails("5 {1 {2 {3 {4} {6} 7} {8 {9 {", Check.NESTED, "5").used(0, 6);
        Check.fresh("{{{{}{}}{{}}}{{{}}}}", "{2}").used(0, 9);
    }

    /** "made when its } is read (LIMIT, if there are not so many cells; those within it before, and their cells stay TAKEN if it fails". */
    private static void cellsForProcedures() {
        Check.fresh("157 array pop {1 2 3}", "{3}").used(0, 160);
        Check.fails("158 array pop {1 2 3}", Check.LIMIT, "").used(0, 158);
        Check.fresh("160 array pop {}", "{0}").used(0, 160);
        Check.fails("160 array pop {1}", Check.LIMIT, "").used(0, 160);
        Check.fails("160 array pop {{}}", Check.LIMIT, "").used(0, 160);
        Check.fresh("156 array pop {{1 2 3}}", "{1}").used(0, 160);
        Check.fails("157 array pop {{1 2 3}}", Check.LIMIT, "").used(0, 160);
        Check.fails("156 array pop {{1 2} {3} {4}}", Check.LIMIT, "").used(0, 160);
        Check.fails("158 array pop {{1} {2 3} {4}}", Check.LIMIT, "").used(0, 159);
        Check.fails("159 array pop {1 2 abc !", Check.SYNTAX, "").used(0, 159).used(5, 1);
        Check.fails("159 array pop {1 2 abc} def", Check.LIMIT, "").used(0, 159).used(5, 1);
        Check c = Check.fails("5 {{1 2} 3", Check.SYNTAX, "5").used(0, 2);
        c.ok("{4}", "5 {1}").used(0, 3).ok("aload pop", "5 4");
        Check.fresh("{" + "[".repeat(115) + "{}}", "{116}").used(0, 116);
        Check.fresh("{" + "[".repeat(112) + "{{[}}}", "{113}").used(0, 115);
        Check.fresh("{{1 2} 3} 0 get aload pop {{1 2} 3} 1 get", "1 2 3").used(0, 8);
    }

    /** "so is the end of the text within a PROCEDURE". */
    private static void endWithinProcedure() {
        for (int n = 1; n <= 4; n++) {
            Check.fails("5 " + "{".repeat(n), Check.SYNTAX, "5").steps(1);
            Check.fails("5 " + "{".repeat(n) + " ", Check.SYNTAX, "5");
            Check.fails("5 " + "{7 ".repeat(n), Check.SYNTAX, "5");
            Check.fails("5 " + "{".repeat(n) + "}".repeat(n - 1), Check.SYNTAX, "5");
            Check c = Check.fails("{".repeat(n) + "abc", Check.SYNTAX, "").used(5, 1);
            c.run("}", Check.SYNTAX, "").ok("{}", "{0}");
        }
        Check c = new Check();
        c.run("{" + "1".repeat(9) + " ".repeat(110), Check.SYNTAX, "");
        for (int turn = 0; turn < 5; turn++) {
            c.run("{" + " 1".repeat(59), Check.SYNTAX, "").run("{{" + " 1".repeat(58), Check.SYNTAX, "");
        }
        c.ok("{2 3 4} aload pop", "2 3 4").ok("clear", "");
        c.run("{".repeat(4) + " ".repeat(113) + "}}}", Check.SYNTAX, "").used(0, 5);
        c.ok("{".repeat(4) + " ".repeat(112) + "}".repeat(4), "{1}");
    }

    /** "Blanks stand as one likes between TOKENS, or none (5abc is 5 and abc)". */
    private static void blanks() {
        Check.fresh("   5     6  ", "5 6");
        Check.fresh("{ 5   6 }  aload  pop", "5 6");
        Check.fresh("5{6}[7]8/a/b", "5 {1} [1] 8 /a /b");
        Check.fails("5abc", Check.UNDEFINED, "5").used(5, 1).steps(2);
        Check.fresh("/abc 8 def 5abc", "5 8");
        Check.fresh("5pop6 7exch", "7 6");
        Check.fresh(" ".repeat(120), "").steps(0);
        Check.fresh("", "").steps(0);
        Check.fresh(" ".repeat(119) + "5", "5");
        Check.fresh("5" + " ".repeat(119), "5");
    }

    /** "Anything else is SYNTAX, at that place (what stands before it was done)". */
    private static void badPlaces() {
        for (char c = 33; c < 127; c++) {
            boolean begins = c >= '0' && c <= '9' || c >= 'a' && c <= 'z' || c == '[';
            if (!begins && c != ']') {
                Check.fails("1 2 add " + c, Check.SYNTAX, "3").steps(3);
            }
        }
        Check.fails("1 ] !", Check.UNMATCHED, "1");
        Check.fails("1 2 }", Check.SYNTAX, "1 2");
        Check.fails("{} } {}", Check.SYNTAX, "{0}");
        Check.fails("{1 2 add ! }", Check.SYNTAX, "").steps(0);
        Check.fails("!1 2", Check.SYNTAX, "").steps(0);
    }

    private static Check withWords(int n) {
        Check c = new Check();
        StringBuilder text = new StringBuilder();
        for (int i = 0; i < n; i++) {
            text.append('/').append((char) ('a' + i / 26)).append((char) ('a' + i % 26));
            if (i % 10 == 9 || i == n - 1) {
                c.ok(text + " clear", "").used(5, i + 1);
                text.setLength(0);
            }
        }
        return c;
    }

    /** "A WORD that is none of the operators' is KNOWN from when it is first read ..; a 41st one is LIMIT". */
    private static void mostWords() {
        String[] fortieth = {"/new", "{new}", "{/new}", "{{new}}"};
        for (String text : fortieth) {
            withWords(39).ok(text + " clear", "").used(5, 40).ok("/new", "/new").used(5, 40);
        }
        withWords(39).run("new", Check.UNDEFINED, "").used(5, 40);
        String[] next = {"new", "/new", "{new}", "{/new}", "{{{{new}}}}", "/a", "/abcdefgh"};
        for (String text : next) {
            withWords(40).run("5 " + text, Check.LIMIT, "5").steps(1).used(5, 40).run("aa", Check.UNDEFINED, "5");
        }
        withWords(40).run("5 /abcdefghi", Check.SYNTAX, "5").used(5, 40);
        withWords(40).run("{{1 2} new", Check.LIMIT, "").used(0, 2);
        withWords(40).ok("/aa /ba /bn /pop {aa bn add}", "/aa /ba /bn /pop {3}").used(5, 40);
        Check.fails("/one/two!", Check.SYNTAX, "/one /two").used(5, 2);
        Check.fails("/one{two!", Check.SYNTAX, "/one").used(5, 2);
        Check.fails("one/two", Check.UNDEFINED, "").used(5, 1);
        Check.fresh("/one/one{one one}save 3 dict", "/one /one {2} save1 dict1").used(5, 1);
    }

    /** "At the top each TOKEN is read and its VALUE DONE before the next one is read; a PROCEDURE is pushed". */
    private static void oneByOne() {
        Check.fails("1 pop pop !", Check.UNDERFLOW, "");
        Check.fails("stop {{{{{", Check.STOPPED, "");
        Check.fails("stop 1234567890", Check.STOPPED, "");
        Check.fresh("160 array clear save pop /a 1 def", "").used(0, 160);
        Check.fresh("save 160 array pop restore {1 2}", "{2}").used(0, 2);
        Check.fails("1 {2 3 add} {pop pop !}", Check.SYNTAX, "1 {3}").steps(2);
    }
}
