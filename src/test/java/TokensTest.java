/** Promise 3: the TEXT and its TOKENS. */
public final class TokensTest {
    public static void main(String[] args) {
        ints();
        reals();
        words();
        procedures();
        procedureFailures();
        knownWords();
        syntax();
        wholeText();
        textAfterwards();
        Check.finish();
    }

    private static void ints() {
        Check.fresh("0 7 42 999999999 -999999999 -0 007", "0 7 42 999999999 -999999999 0 7");
        Check.fresh("5-3 -4-5", "5 -3 -4 -5");
        Check.fails("1 1234567890", Check.SYNTAX, "1");
        Check.fails("1 -1234567890 ", Check.SYNTAX, "1");
        Check.fails("1 0000000001", Check.SYNTAX, "1");
        Check.fails("5 -", Check.SYNTAX, "5");
        Check.fails("5 --3", Check.SYNTAX, "5");
        Check.fails("5 - 3", Check.SYNTAX, "5");
        Check.fails("+3", Check.SYNTAX, "");
        Check.fails("/a 4 def 5a a-2 3.", Check.SYNTAX, "5 4 4 -2 3");
    }

    private static void reals() {
        Check.fresh("1.5 -1.5 0.1 12.25 3.125 7.0625 999999999.9999", "1.5 -1.5 0.1 12.25 3.125 7.0625 9.999999999999E8");
        Check.fresh("0.3 3.07 8.009 8.0009", "" + (0.0 + 3.0 / 10.0) + " " + (3.0 + 7.0 / 100.0) + " " + (8.0 + 9.0 / 1000.0) + " " + (8.0 + 9.0 / 10000.0));
        Check.fresh("-0.0 -3.07", "0.0 " + (0.0 - (3.0 + 7.0 / 100.0)));
        Check.fresh("1.5-2.5-3", "1.5 -2.5 -3");
        Check.fails("1.5 2.", Check.SYNTAX, "1.5 2");
        Check.fails("2.a", Check.SYNTAX, "2");
        Check.fails(".5", Check.SYNTAX, "");
        Check.fails("-.5", Check.SYNTAX, "");
        Check.fails("1.2.3", Check.SYNTAX, "1.2");
        Check.fails("7 1.12345", Check.SYNTAX, "7");
        Check.fails("7 1234567890.5", Check.SYNTAX, "7");
        Check.fails("7 2.-5", Check.SYNTAX, "7 2");
    }

    private static void words() {
        Check.fresh("/a /abcdefgh /z", "/a /abcdefgh /z");
        Check.fails("1 /abcdefghi", Check.SYNTAX, "1").used(5, 0);
        Check.fails("1 abcdefghi", Check.SYNTAX, "1").used(5, 0);
        Check.fails("1 abcdefgh", Check.UNDEFINED, "1").used(5, 1);
        Check.fresh("/cleartomark /getinterval /currentdict /closepath /bitshift", "/cleartomark /getinterval /currentdict /closepath /bitshift").used(5, 0);
        Check.fails("cleartomarks", Check.SYNTAX, "");
        Check.fails("1 /", Check.SYNTAX, "1");
        Check.fails("1 / a", Check.SYNTAX, "1");
        Check.fails("1 /5", Check.SYNTAX, "1");
        Check.fails("1 /[", Check.SYNTAX, "1");
        Check.fails("1 //a", Check.SYNTAX, "1");
        Check.fresh("/a/b/c", "/a /b /c");
        Check.fresh("/a{1}def a[2]a", "1 [1] 1");
        Check.fresh("[1 2]3[", "[2] 3 mark");
        Check.fails("1 dupp", Check.UNDEFINED, "1");
        Check.fresh("{dup pops} 0 get {[ ] /x} aload pop", "dup [ ] /x");
        Check.fresh("{[} 0 get 5 def [ 6 {]} 0 get cvlit", "5 6 /]");
    }

    private static void procedures() {
        Check.fresh("{}", "{0}").used(0, 0).steps(1);
        Check.fresh("{1 2.5 /a b [ ]}", "{6}").used(0, 6).used(5, 2);
        Check.fresh("{1 {2 3} 4}", "{3}").used(0, 5);
        Check.fresh("{1{2{3{4}}}}", "{2}").used(0, 7);
        Check.fresh("{{{{}}}}{{}{}{}{}}", "{1} {4}").used(0, 7);
        Check.fresh("{1 {2 3} 4} aload pop", "1 {2} 4").used(0, 5);
        Check.fresh("{ {7} 8 } aload pop pop aload pop", "7");
        Check.fresh("{" + Check.times(59, "1") + "}", "{59}").used(0, 59);
        Check.fresh("{" + "[".repeat(118) + "}", "{118}").used(0, 118);
    }

    private static void procedureFailures() {
        Check.fails("5 {{{{{", Check.NESTED, "5");
        Check.fails("5 {{{{1}}} {{{{}}}}}", Check.NESTED, "5").used(0, 3);
        Check.fails("5 {1 2", Check.SYNTAX, "5").used(0, 0);
        Check.fails("5 {1 {2 3} 4", Check.SYNTAX, "5").used(0, 2);
        Check.fails("5 {1 {2 3} ? }", Check.SYNTAX, "5").used(0, 2);
        Check.fails("5 }", Check.SYNTAX, "5");
        Check.fails("{1}}", Check.SYNTAX, "{1}");
        Check.fails("{1 2.}", Check.SYNTAX, "");
        Check.fails("{1 -}", Check.SYNTAX, "");
        Check c = Check.fresh("155 array pop", "").used(0, 155);
        c.run("{1 {2 3} 4 5 6}", Check.LIMIT, "").used(0, 157);
        c.run("{1 2 3 4}", Check.LIMIT, "").used(0, 157);
        c.ok("{1 2 3}", "{3}").used(0, 160);
        c.ok("clear {} [] 0 array", "{0} [0] [0]");
        c.run("clear {1}", Check.LIMIT, "");
    }

    private static String letters(int from, int to) {
        StringBuilder text = new StringBuilder();
        for (int i = from; i < to; i++) {
            text.append('/').append((char) ('a' + i / 20)).append((char) ('a' + i % 20)).append(' ');
        }
        return text.toString();
    }

    private static void knownWords() {
        Check c = new Check();
        c.text(letters(0, 20) + "clear").ok("", "").used(5, 20);
        c.text(letters(20, 39) + "clear").ok("", "").used(5, 39);
        c.ok("{last}", "{1}").used(5, 40);
        c.run("5 /new", Check.LIMIT, "{1} 5").used(5, 40);
        c.run("6 new", Check.LIMIT, "{1} 5 6").used(5, 40);
        c.run("{new}", Check.LIMIT, "{1} 5 6").used(5, 40);
        c.run("{newwordtoolong", Check.SYNTAX, "{1} 5 6");
        c.ok("clear /aa /last /pop {pop aa}", "/aa /last /pop {2}").used(5, 40);
        Check.fails("{one two /three", Check.SYNTAX, "").used(5, 3);
        Check.fails("one two", Check.UNDEFINED, "").used(5, 1);
        Check.fails("/one?", Check.SYNTAX, "/one").used(5, 1);
        Check.fails("{one?}", Check.SYNTAX, "").used(5, 1);
        new Check().run(1, "1 word", Check.TIRED, "1").used(5, 1);
        new Check().run(1, "1 {2 {3}}", Check.TIRED, "1").used(0, 3);
    }

    private static void syntax() {
        String bad = "!\"#$%&'()*+,:;<=>?@ABCXYZ\\^_`|~.}";
        for (int i = 0; i < bad.length(); i++) {
            Check.fails("1 2 add " + bad.charAt(i) + " 4", Check.SYNTAX, "3").steps(3);
            Check.fails("1 {" + (bad.charAt(i) == '}' ? '!' : bad.charAt(i)) + "}", Check.SYNTAX, "1");
        }
        Check.fails("pop ?", Check.UNDERFLOW, "");
        Check.fresh("   ", "").steps(0);
        Check.fresh("", "").steps(0);
        Check.fresh("  1   2  ", "1 2");
    }

    private static void wholeText() {
        Check c = Check.fresh("{[} 0 get {} def", "");
        c.ok("[".repeat(120), "").steps(120);
        c.ok(" ".repeat(112) + "/wholeab", "/wholeab").used(5, 1);
        c.ok("clear " + " ".repeat(105) + "/wholeabc", "/wholeabc").used(5, 2);
        c.run("clear " + " ".repeat(106) + "wholeabc", Check.UNDEFINED, "").used(5, 2);
    }

    private static void textAfterwards() {
        Check c = new Check();
        c.run("1 pop pop 5 6 7", Check.UNDERFLOW, "").used(6, 0).ok("", "");
        c.text("1 2");
        Check.same("fuel 0", "IllegalArgumentException", Check.thrownBy(() -> c.scribe.run(0)));
        Check.same("fuel -1", "IllegalArgumentException", Check.thrownBy(() -> c.scribe.run(-1)));
        Check.same("fuel 501", "IllegalArgumentException", Check.thrownBy(() -> c.scribe.run(501)));
        Check.same("least fuel", "IllegalArgumentException", Check.thrownBy(() -> c.scribe.run(Integer.MIN_VALUE)));
        c.used(6, 3).steps(0).fault(Check.UNDERFLOW);
        c.run(500, "", 0, "1 2").used(6, 0).steps(2);
        Check.same("fuel 0 without text", "IllegalArgumentException", Check.thrownBy(() -> c.scribe.run(0)));
        c.steps(2);
        c.run(1, "", 0, "1 2").steps(0);
    }
}
