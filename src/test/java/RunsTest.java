/** Promises 3, 4 and 5: what is RUN, STEPS, fuel, failures and how they are caught. */
public final class RunsTest {
    public static void main(String[] args) {
        doing();
        choosing();
        looping();
        leaving();
        catching();
        faults();
        nesting();
        nestedLoops();
        counting();
        tiring();
        notUndone();
        Check.finish();
    }

    private static void doing() {
        Check.fresh("{1 2 add} exec", "3");
        Check.fresh("{1 2.5 /a b} pop {1 2.5 /a [3.5 true]} exec", "1 2.5 /a [2]");
        Check.fresh("5 exec 1.5 exec /a exec [1] exec mark exec", "5 1.5 /a [1] mark");
        Check.fresh("/x 5 def /x cvx exec", "5");
        Check.fresh("1 2 /add cvx exec", "3");
        Check.fresh("{{1} 2} exec", "{1} 2");
        Check.fresh("{{1}} exec exec", "1");
        Check.fails("/x cvx exec", Check.UNDEFINED, "");
        Check.fresh("/p {{3 4 pop} exec} def p", "3");
        Check.fresh("{1 2 3} dup 2 9 put exec", "1 2 9");
        Check.fresh("/p {/p load 5 9 put 3 4} def p", "9 4").used(0, 7);
        Check.fresh("/p {/p load 6 /x cvx put 3 4} def /x 8 def p", "8 4");
    }

    private static void choosing() {
        Check.fresh("true {1} if false {2} if", "1");
        Check.fresh("true {1} {2} ifelse false {3} {4} ifelse", "1 4");
        Check.fresh("5 true {} if false {1} {} ifelse", "5");
    }

    private static void looping() {
        Check.fresh("1 1 4 {} for", "1 2 3 4");
        Check.fresh("4 -2 0 {} for", "4 2 0");
        Check.fresh("1 2 4 {} for", "1 3");
        Check.fresh("5 1 4 {1} for 1 -1 2 {1} for", "");
        Check.fresh("3 1 3 {} for 3 -1 3 {} for", "3 3");
        Check.fresh("1 0 0 {1} for", "");
        Check.fresh("0 1 2 {dup mul} for", "0 1 4");
        Check.fresh("1 31 bitshift not dup 1 sub 1 3 -1 roll {} for", "2147483646 2147483647");
        Check.fresh("1 31 bitshift dup 1 add -1 3 -1 roll {} for", "-2147483647 -2147483648");
        Check.fresh("2 999999999 dup dup add {} for", "2 1000000001");
        Check.fresh("3 {7} repeat", "7 7 7");
        Check.fresh("0 {7} repeat", "");
        Check.fails("-1 {7} repeat", Check.RANGE, "-1 {1}");
        Check.fresh("5 3 {1 sub} repeat", "2");
        Check.fresh("0 {1 add dup 5 eq {exit} if} loop", "5");
        Check.fresh("[4 5 6] {1 add} forall", "5 6 7");
        Check.fresh("{a /b 3} {} forall", "a /b 3");
        Check.fresh("[] {1} forall", "");
        Check.fresh("[1 2 3] dup {pop dup 2 9 put} forall 2 get", "9");
        Check.fresh("/a [1 2 3] def a {a 1 7 put} forall", "1 7 3");
    }

    private static void leaving() {
        Check.fresh("1 1 9 {dup 3 eq {exit} if} for 8", "1 2 3 8");
        Check.fresh("5 {7 exit 8} repeat", "7");
        Check.fresh("[1 2 3] {exit} forall 9", "1 9");
        Check.fresh("{{exit} loop 1 exit} loop 2", "1 2");
        Check.fresh("/e {exit} def {e 1} loop 2", "2");
        Check.fresh("{/exit cvx exec 1} loop 2", "2");
        Check.fresh("{{{exit} exec 1} exec 2} loop 3", "3");
        Check.fails("exit", Check.NOLOOP, "");
        Check.fails("{exit} exec", Check.NOLOOP, "");
        Check.fails("2 {} repeat exit", Check.NOLOOP, "");
        Check.fails("{exit} loop exit", Check.NOLOOP, "");
        Check.fresh("{exit} stopped", "true").fault(Check.NOLOOP);
        Check.fresh("{{exit} stopped exit} loop", "true").fault(Check.NOLOOP);
        Check.fresh("{{exit} exec} stopped 2 {{exit} loop 1} repeat", "true 1 1").fault(Check.NOLOOP);
        Check.fresh("2 {{{exit 6} stopped exit} loop} repeat", "true true").fault(Check.NOLOOP);
        Check.fresh("{{{exit} loop 5} stopped exit} loop", "5 false");
        Check.fresh("{{1} stopped exit} loop", "1 false");
        Check.fresh("{{stop} stopped exit} loop {exit} stopped", "true true");
        Check.fails("{{stop} loop} stopped exit", Check.NOLOOP, "true");
    }

    private static void catching() {
        Check.fresh("{1} stopped", "1 false").fault(0);
        Check.fresh("{1 stop 2} stopped", "1 true").fault(Check.STOPPED);
        Check.fresh("5 stopped /a stopped [1] stopped", "5 false /a false [1] false");
        Check.fresh("/x cvx stopped", "true").fault(Check.UNDEFINED);
        Check.fresh("/pop cvx stopped", "true").fault(Check.UNDERFLOW);
        Check.fresh("{1 2 {3 stop} exec} stopped", "1 2 3 true");
        Check.fresh("{3 dict begin stop} stopped", "true").used(2, 2);
        Check.fresh("{{stop} stopped 1} stopped", "true 1 false");
        Check.fresh("{{stop} stopped stop} stopped", "true true");
        Check.fails("stop", Check.STOPPED, "");
        Check.fails("1 {stop} exec 2", Check.STOPPED, "1");
        Check.fresh("{1 true add} stopped", "1 true true").fault(Check.TYPE);
        Check.fails(Check.times(39, "7") + " {8} stopped", Check.OVERFLOW, Check.times(39, "7") + " 8");
        Check.fails(Check.times(39, "7") + " {8 stop} stopped", Check.OVERFLOW, Check.times(39, "7") + " 8");
        Check.fresh(Check.times(38, "7") + " {8 stop} stopped", Check.times(38, "7") + " 8 true");
        Check.fails(Check.times(39, "7") + " {8 9} stopped", Check.OVERFLOW, Check.times(39, "7") + " 8");
        Check.fails("{{41 {7} repeat} stopped} stopped", Check.OVERFLOW, Check.times(40, "7"));
        Check.fails("{{stop} stopped 39 {7} repeat} stopped", Check.OVERFLOW, "true " + Check.times(39, "7"));
    }

    private static void faults() {
        Check c = new Check();
        c.ok("fault", "0").fault(0);
        c.run("pop pop", Check.UNDERFLOW, "").fault(Check.UNDERFLOW);
        c.ok("fault", "1").fault(Check.UNDERFLOW);
        c.ok("clear {1 0 div} stopped fault", "1 0 true 6").fault(Check.DIVIDED);
        c.ok("clear {stop} stopped pop {pop} stopped pop fault", "1").fault(Check.UNDERFLOW);
        c.run("clear ?", Check.SYNTAX, "").ok("fault", "15");
        c.run(3, "clear {} loop", Check.TIRED, "").ok("fault", "16");
        c.ok("{1 pop} stopped pop fault", "16 16");
        Check.fresh("{{stop} stopped fault exch pop pop pop} stopped fault", "true 1");
    }

    private static void nesting() {
        Check.fails("/f {f} def f", Check.NESTED, "").steps(12);
        Check.fails("/f {1 f} def f", Check.NESTED, Check.times(8, "1"));
        Check.fails("/a {a} 0 get def a", Check.NESTED, "").steps(14);
        Check.fails("/f {1 /f cvx exec} def f", Check.NESTED, Check.times(4, "1"));
        Check.fails("/f {dup 0 eq {} {1 sub f} ifelse} def 4 f", Check.NESTED, "0");
        Check.fresh("/f {dup 0 eq {} {1 sub f} ifelse} def 3 f", "0");
        Check.fresh("/f {dup 0 gt {1 sub f} if} def 3 f", "0");
        Check.fails("/f {dup 0 gt {1 sub f} if} def 4 f", Check.NESTED, "0");
        String eight = "/a {b} def /b {c} def /c {d} def /d {e} def /e {f} def /f {g} def /g {h} def ";
        Check.fresh(eight + "/h {5} def a", "5");
        Check.fails(eight + "/h {{5} exec} def a", Check.NESTED, "");
        Check.fails(eight + "/h {/x exec} def a", Check.NESTED, "");
        Check.fresh(eight + "/h {5 exec} def a", "5");
        Check.fresh(eight + "/h {{5} stopped} def a", "true").fault(Check.NESTED);
        Check.fresh(eight + "/h {5 stopped} def a", "5 false");
        Check.fresh(eight + "/h {/x stopped} def a", "true").fault(Check.NESTED);
        Check.fresh(eight + "/h {false {5} if} def a", "");
        Check.fails(eight + "/h {7 true {5} if} def a", Check.NESTED, "7");
        Check.fresh(eight + "/h {x} def /x 5 def a", "5");
        Check.fails(eight + "/h {x} def /x /y cvx def a", Check.NESTED, "");
        Check c = new Check();
        c.run(eight + "/h {{5} exec} def a", Check.NESTED, "").ok("b", "5");
        c.run("clear a", Check.NESTED, "").ok("{{{{6} exec} exec} exec} exec", "6");
    }

    private static void nestedLoops() {
        String seven = "/a {b} def /b {c} def /c {d} def /d {e} def /e {f} def /f {g} def ";
        Check.fresh(seven + "/g {2 {5} repeat} def a", "5 5");
        Check.fresh(seven + "/g {[1 2] {} forall} def a", "1 2");
        String eight = seven + "/g {h} def ";
        Check.fresh(eight + "/h {0 {5} repeat} def a", "");
        Check.fails(eight + "/h {2 {5} repeat} def a", Check.NESTED, "");
        Check.fails(eight + "/h {3 1 4 {} for} def a", Check.NESTED, "3");
        Check.fails(eight + "/h {[6] {} forall} def a", Check.NESTED, "6");
        Check.fails(eight + "/h {{} loop} def a", Check.NESTED, "");
    }

    private static void counting() {
        Check.fresh("1 2 add", "3").steps(3);
        Check.fresh("{1 2} pop", "").steps(2);
        Check.fresh("{1 {2} pop} exec", "1").steps(5);
        Check.fresh("3 {7 pop} repeat", "").steps(3 + 3 * 3);
        Check.fresh("1 1 3 {} for", "1 2 3").steps(5 + 3);
        Check.fresh("[1 2] {pop} forall", "").steps(6 + 2 * 2);
        Check.fresh("{exit} loop", "").steps(4);
        Check.fresh("5 exec", "5").steps(3);
        Check.fresh("{5} exec", "5").steps(3);
        Check.fresh("/x 5 def x", "5").steps(4);
        Check.fresh("/x {5} def x", "5").steps(5);
        Check.fresh("/x /y cvx def /y 5 def x", "5").steps(4 + 3 + 2);
        Check.fresh("true {5} if", "5").steps(4);
        Check.fresh("true {5} {6} ifelse", "5").steps(5);
        Check.fresh("5 stopped", "5 false").steps(3);
        Check.fresh("{5} stopped", "5 false").steps(3);
        Check.fails("1 pop pop 5", Check.UNDERFLOW, "").steps(3);
        Check.fails("1 ?", Check.SYNTAX, "1").steps(1);
        new Check().ok("1 2 3", "1 2 3").steps(3).ok("4", "1 2 3 4").steps(1).ok(" ", "1 2 3 4").steps(0);
    }

    private static void tiring() {
        new Check().run(3, "1 2 3", 0, "1 2 3").steps(3);
        new Check().run(2, "1 2 3", Check.TIRED, "1 2").steps(2).fault(Check.TIRED).used(6, 0);
        new Check().run(1, "1 ?", Check.SYNTAX, "1");
        new Check().run(1, "1 pop", Check.TIRED, "1");
        new Check().run(5, "{} loop", Check.TIRED, "").steps(5);
        new Check().run(5, "{7} loop", Check.TIRED, "7").steps(5);
        new Check().run(4, "{7} loop", Check.TIRED, "7").steps(4);
        new Check().run(3, "{7} loop", Check.TIRED, "").steps(3);
        new Check().run(500, "{} loop", Check.TIRED, "").steps(500);
        new Check().run(500, "1 0 1 {pop} for", Check.TIRED, "1").steps(500);
        new Check().run(500, "999999999 {} repeat", Check.TIRED, "").steps(500);
        new Check().run(5, "{{} loop} stopped 1", Check.TIRED, "").steps(5).fault(Check.TIRED);
        new Check().run(2, "5 exec", Check.TIRED, "").steps(2);
        new Check().run(6, "[1 2] {} forall", Check.TIRED, "").steps(6).fault(16);
        new Check().run(7, "[1 2] {} forall", Check.TIRED, "1");
        new Check().run(6, "/x /y cvx def x", Check.UNDEFINED, "");
        new Check().run(5, "/x /y cvx def x", Check.TIRED, "");
        new Check().run(6, "1 1 3 {} for", Check.TIRED, "1");
        new Check().run(1, "1", 0, "1").run(1, "2 3", Check.TIRED, "1 2").run(1, "4", 0, "1 2 4");
        Check full = Check.fresh(Check.times(40, "7"), Check.times(40, "7"));
        full.run(1, "8", Check.OVERFLOW, Check.times(40, "7")).steps(1);
    }

    private static void notUndone() {
        Check.fails("1 1 3 {pop pop} for", Check.UNDERFLOW, "");
        Check.fails("5 {6 pop pop pop} exec", Check.UNDERFLOW, "");
        Check.fails("true {stop} if", Check.STOPPED, "");
        Check.fails("1 2 {8 stop} repeat", Check.STOPPED, "1 8");
        Check.fails(Check.times(38, "7") + " 2 {8 9 10} repeat", Check.OVERFLOW, Check.times(38, "7") + " 8 9");
        Check.fails("1 1 50 {} for", Check.OVERFLOW, numbers(40));
        Check.fails("41 array {} forall", Check.OVERFLOW, Check.times(40, "0")).steps(4 + 41);
    }

    private static String numbers(int n) {
        StringBuilder all = new StringBuilder("1");
        for (int i = 2; i <= n; i++) {
            all.append(' ').append(i);
        }
        return all.toString();
    }
}
