/** Promise 3: the STACK's operators, numbers and truths. */
public final class StackOperatorsTest {
    public static void main(String[] args) {
        underflowAndType();
        moving();
        copying();
        rolling();
        marks();
        overflow();
        adding();
        dividing();
        cutting();
        alike();
        comparing();
        bits();
        liveness();
        Check.finish();
    }

    private static void underflowAndType() {
        String[] one = {"pop", "dup", "copy", "index", "neg", "floor", "round", "cvi", "cvr", "not", "cvx", "cvlit", "xcheck",
            "kind", "array", "length", "aload", "dict", "begin", "load", "exec", "loop", "stopped", "restore", "setgray"};
        String[] two = {"exch", "roll", "add", "sub", "mul", "div", "idiv", "mod", "eq", "ne", "gt", "ge", "lt", "le", "and", "or",
            "bitshift", "get", "def", "known", "if", "repeat", "forall", "moveto", "lineto"};
        String[] three = {"put", "getinterval", "ifelse"};
        for (String op : one) {
            Check.fails(op, Check.UNDERFLOW, "");
        }
        for (String op : two) {
            Check.fails(op, Check.UNDERFLOW, "");
            Check.fails("mark " + op, Check.UNDERFLOW, "mark");
        }
        for (String op : three) {
            Check.fails("mark mark " + op, Check.UNDERFLOW, "mark mark");
        }
        Check.fails("mark mark mark for", Check.UNDERFLOW, "mark mark mark");
        types("copy index array dict", "1.5", "true", "mark", "/a", "{}");
        types("neg floor round cvi cvr setgray", "true", "mark", "/a", "{}", "currentdict");
        types("not", "1.5", "mark", "/a", "[]");
        types("length", "1", "/a", "mark", "true");
        types("aload", "1", "/a", "currentdict");
        types("begin", "1", "/a", "[]", "save");
        types("load", "1", "[]", "true", "currentdict");
        types("loop", "1", "[]", "/a", "[] cvlit");
        types("restore", "1", "currentdict", "mark");
        types("add sub mul div gt ge lt le moveto lineto", "1 true", "true 1", "1.5 /a", "mark 2");
        types("idiv mod bitshift roll", "1 1.5", "1.5 1", "true 1", "1 mark");
        types("and or", "1 true", "true 1", "1.5 1", "1.5 1.5", "/a /a", "mark true");
        types("get", "[] /a", "currentdict 0", "1 1", "[] 1.5", "/a /b", "[] true");
        types("def", "1 1", "true 1", "[] 1");
        types("known", "1 /a", "currentdict 1", "[] /a");
        types("if", "1 {}", "true []", "true 1", "true /a");
        types("repeat", "1.5 {}", "1 []", "true {}");
        types("forall", "1 {}", "[] []", "currentdict {}", "[] 1");
        types("put", "[] /a 1", "currentdict 1 1", "1 1 1", "[] 1.5 1");
        types("getinterval", "1 1 1", "[] 1.5 1", "[] 1 1.5", "currentdict 1 1");
        types("ifelse", "1 {} {}", "true [] {}", "true {} []");
        types("for", "1.5 1 1 {}", "1 1.5 1 {}", "1 1 1.5 {}", "1 1 1 []");
    }

    private static void types(String ops, String... values) {
        for (String op : ops.split(" ")) {
            for (String value : values) {
                Check c = new Check();
                c.text(value);
                c.scribe.run(50);
                String before = Check.stackOf(c.scribe);
                c.run(op, Check.TYPE, before).fault(Check.TYPE);
            }
        }
    }

    private static void moving() {
        Check.fresh("1 2 pop", "1");
        Check.fresh("1 /a exch", "/a 1");
        Check.fresh("1.5 true 3 exch", "1.5 3 true");
        Check.fresh("2.5 dup", "2.5 2.5");
        Check.fresh("[1 2] dup", "[2] [2]");
        Check.fresh("1 2 mark clear", "");
        Check.fresh("clear count 1 count", "0 1 2");
    }

    private static void copying() {
        Check.fresh("1 2 3 2 copy", "1 2 3 2 3");
        Check.fresh("1 2.5 2 copy", "1 2.5 1 2.5");
        Check.fresh("1 0 copy", "1");
        Check.fresh("0 copy", "");
        Check.fails("1 2 3 copy", Check.RANGE, "1 2 3");
        Check.fails("1 -1 copy", Check.RANGE, "1 -1");
        Check.fails("1 999999999 copy", Check.RANGE, "1 999999999");
        Check.fails(Check.times(21, "7") + " 20 copy", Check.OVERFLOW, Check.times(21, "7") + " 20");
        Check.fresh(Check.times(20, "7") + " 20 copy", Check.times(40, "7"));
        Check.fresh("4 5 6 0 index", "4 5 6 6");
        Check.fresh("4 5 6 2 index", "4 5 6 4");
        Check.fails("4 5 6 3 index", Check.RANGE, "4 5 6 3");
        Check.fails("4 -1 index", Check.RANGE, "4 -1");
        Check.fails("0 index", Check.RANGE, "0");
        Check.fails("4 999999999 index", Check.RANGE, "4 999999999");
    }

    private static void rolling() {
        Check.fresh("1 2 3 4 3 1 roll", "1 4 2 3");
        Check.fresh("1 2 3 4 3 -1 roll", "1 3 4 2");
        Check.fresh("1 2 3 4 4 2 roll", "3 4 1 2");
        Check.fresh("1 2.5 /a 3 7 roll", "/a 1 2.5");
        Check.fresh("1 2 3 3 -7 roll", "2 3 1");
        Check.fresh("1 2 3 3 0 roll", "1 2 3");
        Check.fresh("1 2 3 3 3 roll", "1 2 3");
        Check.fresh("1 2 0 5 roll", "1 2");
        Check.fresh("1 2 1 5 roll", "1 2");
        Check.fresh("1 2 3 3 1 31 bitshift roll", "3 1 2");
        Check.fresh("0 0 roll", "");
        Check.fails("1 2 3 1 roll", Check.RANGE, "1 2 3 1");
        Check.fails("1 2 -1 1 roll", Check.RANGE, "1 2 -1 1");
        Check.fails("1 2 999999999 1 roll", Check.RANGE, "1 2 999999999 1");
    }

    private static void marks() {
        Check.fresh("1 mark 2 3 cleartomark", "1");
        Check.fresh("1 mark cleartomark", "1");
        Check.fails("cleartomark", Check.UNMATCHED, "");
        Check.fresh("mark 1 [ 2 cleartomark", "mark 1");
        Check.fails("1 2 cleartomark", Check.UNMATCHED, "1 2");
        Check.fresh("mark mark eq", "true");
        Check.fresh("[1 [2 3] 4] mark 5]", "[3] [1]").used(0, 6);
        Check.fresh("[]", "[0]").used(0, 0);
        Check.fails("1 ]", Check.UNMATCHED, "1").used(0, 0);
        Check c = Check.fresh("158 array pop", "");
        c.run("[1 2 3]", Check.LIMIT, "mark 1 2 3").used(0, 158);
        c.ok("pop ]", "[2]").used(0, 160);
    }

    private static void overflow() {
        String[] ops = {"5", "1.5", "/a", "{}", "dup", "count", "mark", "[", "true", "false", "currentdict", "save", "fault"};
        for (String op : ops) {
            Check c = Check.fresh(Check.times(39, "7"), Check.times(39, "7"));
            c.text(op);
            Check.same(op + " as the 40th", 0, c.scribe.run(9));
            Check.same("depth after " + op, 40, c.scribe.depth());
            c = Check.fresh(Check.times(40, "7"), Check.times(40, "7"));
            c.run(op, Check.OVERFLOW, Check.times(40, "7")).steps(1).used(3, 0);
        }
        Check c = Check.fresh("/a 5 def 3 dict " + Check.times(38, "7"), "dict1 " + Check.times(38, "7"));
        c.ok("a", "dict1 " + Check.times(38, "7") + " 5").run("a", Check.OVERFLOW, "dict1 " + Check.times(38, "7") + " 5");
    }

    private static void adding() {
        Check.fresh("3 4 add 3 4 sub 3 4 mul", "7 -1 12");
        Check.fresh("3 4.0 add 3.0 4 sub 3.5 4.0 mul", "7.0 -1.0 14.0");
        Check.fresh("1 31 bitshift 1 sub", "-2.147483649E9");
        Check.fresh("1 31 bitshift not 1 add", "2.147483648E9");
        Check.fresh("1 31 bitshift not 0 add", "2147483647");
        Check.fresh("999999999 2 mul 999999999 3 mul", "1999999998 2.999999997E9");
        Check.fresh("1000000 1000000 mul", "1.0E12");
        Check.fails("1000001 1000000 mul", Check.RANGE, "1000001 1000000");
        Check.fails("1000001 -1000000 mul", Check.RANGE, "1000001 -1000000");
        Check.fresh("1000000 -1000000 mul", "-1.0E12");
        Check.fails("1000000 1000000 mul 1 add", Check.RANGE, "1.0E12 1");
        Check.fails("1000000 1000000 mul neg 1 sub", Check.RANGE, "-1.0E12 1");
        Check.fresh("0.1 0.2 add", "" + (0.1 + 0.2));
        Check.fresh("5 neg -5 neg 2.5 neg 0 neg 0.0 neg", "-5 5 -2.5 0 0.0");
        Check.fresh("1 31 bitshift neg", "2.147483648E9");
    }

    private static void dividing() {
        Check.fresh("7 2 div 8 2 div 1 3 div", "3.5 4.0 " + 1.0 / 3.0);
        Check.fresh("0 5 div 0.0 5 div", "0.0 0.0");
        Check.fails("1 0 div", Check.DIVIDED, "1 0");
        Check.fails("1.5 0.0 div", Check.DIVIDED, "1.5 0.0");
        Check.fails("0 0 div", Check.DIVIDED, "0 0");
        Check.fails("1000000 1000000 mul 0.5 div", Check.RANGE, "1.0E12 0.5");
        Check c = new Check();
        c.scribe.feed(Double.MIN_VALUE);
        c.run("1 exch div", Check.RANGE, "1 4.9E-324");
        c.ok("pop pop", "");
        c.scribe.feed(-0.0);
        c.run("1 exch div", Check.DIVIDED, "1 -0.0");
        Check.fresh("7 2 idiv -7 2 idiv 7 -2 idiv -7 -2 idiv", "3 -3 -3 3");
        Check.fresh("7 2 mod -7 2 mod 7 -2 mod -7 -2 mod", "1 -1 1 -1");
        Check.fresh("1 31 bitshift -1 idiv", "2.147483648E9");
        Check.fresh("1 31 bitshift -1 mod", "0");
        Check.fresh("1 31 bitshift 1 idiv", "-2147483648");
        Check.fails("1 0 idiv", Check.DIVIDED, "1 0");
        Check.fails("1 0 mod", Check.DIVIDED, "1 0");
    }

    private static void cutting() {
        Check.fresh("2.5 floor -2.5 floor 3.0 floor -3.0 floor 7 floor", "2.0 -3.0 3.0 -3.0 7");
        Check.fresh("2.9999 floor -2.0001 floor 2.0001 floor", "2.0 -3.0 2.0");
        Check.fresh("2.5 round -2.5 round 2.4999 round -2.6 round 7 round", "3.0 -2.0 2.0 -3.0 7");
        Check.fresh("0.5 round -0.5 round 0.4 round", "1.0 0.0 0.0");
        Check.fresh("2.9 cvi -2.9 cvi 7 cvi", "2 -2 7");
        Check.fresh("1 31 bitshift cvr 0.9999 sub cvi", "-2147483648");
        Check.fresh("1 31 bitshift not cvr 0.9999 add cvi", "2147483647");
        Check.fails("1 31 bitshift cvr 1 sub cvi", Check.RANGE, "-2.147483649E9");
        Check.fails("1 31 bitshift neg cvi", Check.RANGE, "2.147483648E9");
        Check.fresh("7 cvr 7.5 cvr", "7.0 7.5");
        Check.fresh("1000000 1000000 mul floor 1000000 1000000 mul neg floor", "1.0E12 -1.0E12");
        Check.fresh("1000000 1000000 mul round", "1.0E12");
    }

    private static void alike() {
        String[] yes = {"1 1", "1 1.0", "1.5 1.5", "0.0 -0.0", "true true", "false false", "/a /a", "/a {a} 0 get", "mark mark", "[] []",
            "[] {}", "[1 2] dup", "[1 2] dup cvx", "[1 2] dup 0 2 getinterval", "currentdict currentdict", "save dup",
            "[1 2] dup 2 0 getinterval exch 0 0 getinterval"};
        String[] no = {"1 2", "1 1.5", "1 true", "0 false", "true false", "/a /b", "/a /aa", "[1] [1]", "[1 2] dup 0 1 getinterval",
            "[1 2 3] dup 0 2 getinterval exch 1 2 getinterval", "[] [1]", "currentdict 3 dict", "save save", "mark 0", "/a mark",
            "currentdict 0", "save 1", "[] 0", "{} mark", "/add /sub"};
        for (String both : yes) {
            compareAll(both, true);
        }
        for (String both : no) {
            compareAll(both, false);
        }
    }

    private static void compareAll(String both, boolean due) {
        Check.fresh(both + " eq", "" + due);
        Check.fresh(both + " ne", "" + !due);
        Check.fresh(both + " exch eq", "" + due);
    }

    private static void comparing() {
        Check.fresh("1 2 gt 2 2 gt 3 2 gt 2.5 2 gt", "false false true true");
        Check.fresh("1 2 ge 2 2 ge 3 2 ge 2 2.0 ge", "false true true true");
        Check.fresh("1 2 lt 2 2 lt 3 2 lt 1.5 2 lt", "true false false true");
        Check.fresh("1 2 le 2 2 le 3 2 le 2.0 2 le", "true true false true");
        Check.fresh("-1 0 lt -0.0 0 lt", "true false");
        Check.fresh("true false true", "true false true");
    }

    private static void bits() {
        Check.fresh("true true and true false and false false or true false or", "true false false true");
        Check.fresh("12 10 and 12 10 or 5 not -1 not 0 not", "8 14 -6 0 -1");
        Check.fresh("true not false not", "false true");
        Check.fresh("1 0 bitshift 1 4 bitshift 1 31 bitshift 3 31 bitshift", "1 16 -2147483648 -2147483648");
        Check.fresh("1 32 bitshift -1 33 bitshift 1 999999999 bitshift", "0 0 0");
        Check.fresh("16 -4 bitshift -1 -31 bitshift -1 -1 bitshift", "1 1 2147483647");
        Check.fresh("-1 -32 bitshift -1 -999999999 bitshift -1 1 31 bitshift bitshift", "0 0 0");
    }

    private static void liveness() {
        Check.fresh("/a cvx /a cvlit {1} cvlit [1] cvx", "a /a [1] {1}");
        Check.fresh("/a cvx cvx {1} cvx 5 cvx 1.5 cvlit true cvx mark cvx", "a {1} 5 1.5 true mark");
        Check.fresh("currentdict cvx save cvlit", "dict0 save1");
        Check.fresh("/a xcheck /a cvx xcheck {} xcheck [] xcheck 5 xcheck mark xcheck", "false true true false false false");
        Check.fresh("1 kind 1.5 kind true kind /a kind mark kind [] kind currentdict kind save kind", "0 1 2 3 4 5 6 7");
        Check.fresh("/a cvx kind {} kind", "3 5");
    }
}
