/** The edges of what is DONE and RUN: UNDER WAY, STEPS, fuel, loops, exit, stopped and fault, in the document's order. */
public final class RunEdgesTest {
    private static final String MOST = "1 31 bitshift not ", LEAST = "1 31 bitshift ";

    public static void main(String[] args) {
        doing();
        mostUnderWay();
        underWayEnds();
        nestedBeforeItBegins();
        stepsOfEach();
        everyFuel();
        forLoops();
        forAtTheEdges();
        repeats();
        forAlls();
        exits();
        stops();
        stoppedWhenFull();
        tiredGoesOn();
        faults();
        whatStaysAfterAFailure();
        Check.finish();
    }

    /** "a LIVE ARRAY is RUN, a LIVE NAME is DONE in turn, others are pushed .. Any other VALUE, a LIVE ARRAY, too, is pushed". */
    private static void doing() {
        String[] values = {"5", "1.5", "true", "/a", "mark", "[7]", "currentdict", "save", "{7} cvlit"};
        String[] told = {"5", "1.5", "true", "/a", "mark", "[1]", "dict0", "save1", "[1]"};
        for (int i = 0; i < values.length; i++) {
            Check.fresh("/x " + values[i] + " def x", told[i]);
            Check.fresh(values[i] + " exec", told[i]);
            Check.fresh(values[i] + " stopped", told[i] + " false");
        }
        Check.fresh("/x {7} def x /y /x cvx def y {x} exec {x} 0 get exec", "7 7 7 7");
        Check.fresh("/x {} def x x {} exec", "");
        Check.fresh("[{7}] 0 get [{7}] cvx exec", "{1} {1}");
        Check.fresh("{1 2 3} dup 2 9 put exec", "1 2 9");
        Check.fresh("/p {/p load 6 /q cvx put 7} def /q 8 def p", "8");
        Check.fails("/x /y cvx def x", Check.UNDEFINED, "").steps(6);
        Check.fails("nothing", Check.UNDEFINED, "").steps(1);
        Check.fails("/nothing cvx exec", Check.UNDEFINED, "").steps(4);
    }

    /** After this, `a` runs n PROCEDURES one within the other, the innermost being the given one. */
    private static Check chain(int n, String innermost) {
        Check c = new Check();
        for (int i = 1; i < n; i++) {
            c.ok("/" + (char) ('a' + i - 1) + " {" + (char) ('a' + i) + "} def", "");
        }
        return c.ok("/" + (char) ('a' + n - 1) + " {" + innermost + "} def /x {7} def /y /z cvx def /z 8 def", "");
    }

    /** "at most 8 at once (NESTED; before it begins)": what is RUN, and a NAME that is DONE as the VALUE of a NAME or by exec or stopped. */
    private static void mostUnderWay() {
        String[] rows = {"x | 7 |", "{7} exec | 7 |", "/x load exec | 7 |", "true {7} if | 7 |", "true {7} {9} ifelse | 7 |", "false {9} {7} ifelse | 7 |",
            "6 1 6 {} for | 6 | 6", "1 {7} repeat | 7 |", "{7 exit} loop | 7 |", "[6] {} forall | 6 | 6", "y | 8 |", "/z cvx exec | 8 |", "/z exec | /z |",
            "{} exec | |", "true {} if | |"};
        for (String row : rows) {
            String[] parts = row.split("\\|", -1);
            for (int n = 1; n <= 8; n++) {
                Check c = chain(n, parts[0].trim());
                c.run("a", n < 8 ? 0 : Check.NESTED, parts[n < 8 ? 1 : 2].trim());
            }
        }
        chain(7, "{7} stopped").ok("a", "7 false").fault(0);
        chain(8, "{7} stopped").ok("a", "true").fault(Check.NESTED);
        chain(7, "/z cvx stopped").ok("a", "8 false").fault(0);
        chain(8, "/z cvx stopped").ok("a", "true").fault(Check.NESTED);
        chain(7, "{x} stopped").ok("a", "true").fault(Check.NESTED);
        String[] noMore = {"5 exec | 5", "1.5 exec | 1.5", "[] exec | [0]", "mark exec | mark", "false {7} if |", "2 1 1 {7} for |", "0 {7} repeat |",
            "[] {7} forall |", "z | 8", "/x load | {1}", "/z | /z", "{7} | {1}", "5 stopped | 5 false", "1 2 add | 3"};
        for (String row : noMore) {
            String[] parts = row.split("\\|", -1);
            chain(8, parts[0].trim()).ok("a", parts[1].trim());
        }
        chain(9, "5").run("a", Check.NESTED, "");
        chain(8, "5").ok("a", "5").ok("b", "5 5");
    }

    /** ".. UNDER WAY meanwhile": what has ended, well or not, is not UNDER WAY any more. */
    private static void underWayEnds() {
        String[] texts = {"x", "y", "{7} exec", "/z cvx exec", "true {7} if", "true {7} {8} ifelse", "1 1 1 {} for", "1 {7} repeat", "{exit} loop",
            "[6] {} forall", "{7} stopped", "{stop} stopped", "/z cvx stopped", "/pop cvx stopped", "{{exit} exec} loop", "{x} exec"};
        for (String text : texts) {
            Check c = chain(8, "5");
            for (int turn = 0; turn < 12; turn++) {
                c.text("clear " + text + " clear").scribe.run(500);
            }
            c.ok("a", "5").ok("pop 12 {" + text + " clear} repeat a", "5");
        }
        Check c = chain(9, "5");
        for (int turn = 0; turn < 4; turn++) {
            c.run("a", Check.NESTED, "").ok("b", "5").ok("clear {a} stopped", "true").ok("pop", "");
        }
        c.run("{{{{stop} exec} exec} exec} exec", Check.STOPPED, "").ok("b", "5");
    }

    /** "An operator that runs a VALUE takes its own VALUES first; what comes later in it is not undone". */
    private static void nestedBeforeItBegins() {
        chain(8, "4 {5} exec").run("a", Check.NESTED, "4").steps(8 + 3);
        chain(8, "4 true {5} if").run("a", Check.NESTED, "4").steps(8 + 4);
        chain(8, "4 1 1 3 {5} for").run("a", Check.NESTED, "4 1").steps(8 + 6 + 1);
        chain(8, "4 3 {5} repeat").run("a", Check.NESTED, "4").steps(8 + 4 + 1);
        chain(8, "{5} loop").run("a", Check.NESTED, "").steps(8 + 2 + 1);
        chain(8, "/p load {5} forall").ok("/p {3 4} def", "").run("a", Check.NESTED, "3").steps(8 + 4 + 1);
        chain(8, "/z cvx exec").run("a", Check.NESTED, "").steps(8 + 3);
        chain(8, "y").run("a", Check.NESTED, "").steps(8 + 1);
        chain(8, "y").run(9, "a", Check.NESTED, "").steps(9);
        chain(8, "y").run(8, "a", Check.TIRED, "").steps(8);
        Check full = chain(8, "1 1 3 {5} for").ok(Check.times(39, "7"), Check.times(39, "7"));
        full.run("a", Check.OVERFLOW, Check.times(39, "7") + " 1").ok("pop pop pop pop", Check.times(36, "7"));
        full.run("a", Check.NESTED, Check.times(36, "7") + " 1");
    }

    /** "A STEP is each VALUE that is DONE .., and each turn of for, repeat, loop and forall, counted when it begins". */
    private static void stepsOfEach() {
        Object[][] rows = {{"", 0}, {"7", 1}, {"{7 8 9}", 1}, {"{{7} 8}", 1}, {"/a", 1}, {"[7 8]", 4}, {"{} exec", 2}, {"{7 8} exec", 4},
            {"{{7 8}} exec", 3}, {"5 exec", 3}, {"/a exec", 3}, {"/z 8 def /z cvx exec", 3 + 3 + 1}, {"/x {7 8} def x", 3 + 3}, {"/y /x cvx def /x 7 def y", 4 + 3 + 2},
            {"/y /x cvx def /x {7 8} def y", 4 + 3 + 4}, {"true {7} if", 4}, {"false {7} if", 3}, {"true {7} {8 9} ifelse", 5}, {"false {7} {8 9} ifelse", 6},
            {"1 1 3 {pop} for", 5 + 6}, {"1 1 0 {pop} for", 5}, {"3 {7} repeat", 3 + 6}, {"0 {7} repeat", 3}, {"{exit} loop", 2 + 2}, {"{7 8} {pop} forall", 3 + 4},
            {"{} {pop} forall", 3}, {"{7} stopped", 3}, {"7 stopped", 3}, {"{stop} stopped", 3}, {"/stop cvx stopped", 4}, {"{7 stop 8} stopped", 4}, {"fault", 1},
            {"2 {2 {} repeat} repeat", 3 + 2 * (1 + 3 + 2)}, {"3 {} repeat", 3 + 3}};
        for (Object[] row : rows) {
            Check c = new Check();
            c.text((String) row[0]);
            Check.same("failure of " + row[0], 0, c.scribe.run(500));
            Check.same("steps of " + row[0], row[1], c.scribe.steps());
        }
        Check c = new Check().steps(0);
        c.ok("7 8", "7 8").steps(2).ok("", "7 8").steps(0).run("!", Check.SYNTAX, "7 8").steps(0).run("9 pop pop pop pop 1", Check.UNDERFLOW, "").steps(5);
    }

    /** "TIRED: when a STEP would be one more than the fuel"; steps: "one that would be too many is none". */
    private static void everyFuel() {
        String[] texts = {"1 2 add 3 mul", "{1 2 add} exec", "/x {1 y} def /y /z cvx def /z 5 def x", "1 1 4 {dup pop} for", "3 {7 pop} repeat",
            "0 {1 add dup 3 eq {exit} if} loop", "[1 2 3] {pop} forall", "{1 {stop} stopped} stopped", "true {1} {2} ifelse false {3} {4} ifelse",
            "{7 8} stopped /z cvx stopped", "{1 2} {} forall", "{} {} forall 0 {} repeat", "[{7} exec 8] length"};
        for (String text : texts) {
            Check all = new Check();
            int end = all.text(text).scribe.run(500);
            int steps = all.scribe.steps();
            Check.same("steps of " + text, true, steps > 4 && steps < 60);
            for (int fuel = 1; fuel <= steps + 1; fuel++) {
                Check c = new Check();
                c.text(text);
                Check.same("fuel " + fuel + " for " + text, fuel < steps ? Check.TIRED : end, c.scribe.run(fuel));
                Check.same("steps of " + text, Math.min(fuel, steps), c.scribe.steps());
                c.fault(fuel < steps ? Check.TIRED : all.scribe.fault()).used(6, 0);
            }
        }
    }

    /** "n i j p for: with v = n at first, as long as v is not above j (i not below 0 ..) or not below j (i below 0)". */
    private static void forLoops() {
        for (int n = -2; n <= 2; n++) {
            for (int i = -3; i <= 3; i++) {
                for (int j = -2; j <= 2; j++) {
                    tryFor(n, i, j);
                }
            }
        }
    }

    private static void tryFor(int n, int i, int j) {
        StringBuilder due = new StringBuilder();
        int turns = 0;
        for (int v = n; turns < 30 && (i < 0 ? v >= j : v <= j); v += i, turns++) {
            due.append(turns == 0 ? "" : " ").append(v);
        }
        boolean endless = turns == 30;
        new Check().run(5 + turns - (endless ? 1 : 0), n + " " + i + " " + j + " {} for", endless ? Check.TIRED : 0,
            endless ? Check.times(29, "" + n) : due.toString());
    }

    /** "v, an INT, is pushed, p RUN, and v grows by i (its sums are exact)". */
    private static void forAtTheEdges() {
        Check.fresh(MOST + "1 " + MOST + "{} for", "2147483647");
        Check.fresh(MOST + "1 sub 1 " + MOST + "{} for", "2147483646 2147483647");
        Check.fresh(MOST + MOST + MOST + "{} for", "2147483647");
        Check.fresh(LEAST + "-1 " + LEAST + "{} for", "-2147483648");
        Check.fresh(LEAST + "1 add -1 " + LEAST + "{} for", "-2147483647 -2147483648");
        Check.fresh(LEAST + LEAST + LEAST + "{} for", "-2147483648");
        Check.fresh(LEAST + MOST + MOST + "{} for", "-2147483648 -1 2147483646");
        Check.fresh(MOST + LEAST + LEAST + "{} for", "2147483647 -1");
        Check.fresh(MOST + "1 " + LEAST + "{} for " + LEAST + "-1 " + MOST + "{} for", "");
        Check.fresh("0 " + MOST + MOST + "{} for", "0 2147483647");
        Check.fresh("1 1 3 {kind} for", "0 0 0");
        Check.fresh("1 1 3 {9 exch pop} for", "9 9 9");
        Check.fresh("5 0 5 {exit} for 5 0 4 {} for", "5");
        Check.fails("1 1 41 {} for", Check.OVERFLOW, counted(40)).steps(5 + 41);
        Check.fresh("1 1 40 {} for", counted(40)).steps(5 + 40);
    }

    private static String counted(int n) {
        StringBuilder told = new StringBuilder("1");
        for (int i = 2; i <= n; i++) {
            told.append(' ').append(i);
        }
        return told.toString();
    }

    /** "n p repeat: n times (RANGE: n is below 0). p loop: again and again". */
    private static void repeats() {
        for (int n = 0; n <= 40; n++) {
            Check.fresh(n + " {7} repeat", Check.times(n, "7")).steps(3 + 2 * n);
        }
        Twins.refuses("repeat", Check.RANGE, "-1 {7}");
        Twins.refuses("repeat", Check.RANGE, LEAST + "{7}");
        new Check().run(500, MOST + "{} repeat", Check.TIRED, "").steps(500);
        new Check().run(500, "{} loop", Check.TIRED, "").steps(500);
        Check.fails("41 {7} repeat", Check.OVERFLOW, Check.times(40, "7"));
        Check.fails("{7} loop", Check.OVERFLOW, Check.times(40, "7"));
        Check.fresh("0 {1 add dup 30 eq {exit} if} loop", "30");
    }

    /** "A p forall: for each VALUE of A in turn, as it is when its turn comes: it is pushed, p RUN". */
    private static void forAlls() {
        for (int n = 0; n <= 40; n++) {
            Check.fresh(n + " array {} forall", Check.times(n, "0")).steps(4 + n);
        }
        Check.fails("41 array {} forall", Check.OVERFLOW, Check.times(40, "0"));
        Check.fresh("159 array {pop} forall", "").steps(4 + 2 * 159);
        Check.fresh("[1 2 3 4] 1 2 getinterval {} forall", "2 3");
        Check.fresh("{x [ /y {7}} {} forall", "x [ /y {1}");
        Check.fresh("[1 2 3] dup {pop dup 1 8 put dup 2 9 put} forall aload pop", "1 8 9");
        Check.fresh("/a [1 2 3] def a {a 0 7 put a 2 9 put} forall", "1 2 9");
        Check.fresh("[1 2 3] {dup 2 eq {exit} if} forall", "1 2");
    }

    /** "exit: .. the innermost of these four, which ends, too, without a failure (NOLOOP: there is none, or a stopped is further in)". */
    private static void exits() {
        String[] loops = {"1 1 3 {%} for", "3 {%} repeat", "{%} loop", "[1 2 3] {%} forall"};
        for (String loop : loops) {
            Check.fresh(loop.replace("%", "clear exit 9") + " 5", "5").fault(0);
            Check.fresh(loop.replace("%", "clear {exit 9} exec 9") + " 5", "5");
            Check.fresh(loop.replace("%", "clear true {/exit cvx exec} if") + " 5", "5");
            Check.fails(loop.replace("%", "clear exit") + " exit", Check.NOLOOP, "");
            Check.fails("0 {} repeat 2 {} repeat " + loop.replace("%", "clear exit") + " {exit} exec", Check.NOLOOP, "");
            Check.fresh(loop.replace("%", "clear {exit} stopped exit"), "true").fault(Check.NOLOOP);
            Check.fresh(loop.replace("%", "clear {stop} stopped exit"), "true").fault(Check.STOPPED);
            Check.fresh("{" + loop.replace("%", "clear exit") + " 5 exit 6} loop 7", "5 7");
            Check.fresh("2 {" + loop.replace("%", "clear exit") + "} repeat 7", "7");
            Check.fresh("{" + loop.replace("%", "clear exit") + " 6} stopped", "6 false").fault(0);
            Check.fails(loop.replace("%", "clear stop"), Check.STOPPED, "").run("exit", Check.NOLOOP, "");
            Check.fresh("{" + loop.replace("%", "clear stop") + "} stopped {exit} stopped", "true true").fault(Check.NOLOOP);
        }
        Check.fails("1 1 3 {} for exit", Check.NOLOOP, "1 2 3");
        Check.fails("1 1 0 {} for exit", Check.NOLOOP, "");
        Check.fails("[] {} forall exit", Check.NOLOOP, "");
        Check.fails("[1] {} forall exit", Check.NOLOOP, "1");
        Check.fails("3 {} repeat exit", Check.NOLOOP, "");
        Check.fails("exit", Check.NOLOOP, "");
        Check.fails("true {exit} if", Check.NOLOOP, "");
        Check.fresh("{exit} stopped", "true").fault(Check.NOLOOP);
        Check.fresh("{{{exit} stopped pop exit} loop 5} stopped", "5 false").fault(Check.NOLOOP);
    }

    /** "stop: fails, STOPPED. x stopped: .. false is pushed, or, if it failed .., true; the STACK and DICT STACK stay as they were". */
    private static void stops() {
        Check.fails("5 stop 6", Check.STOPPED, "5");
        Check.fails("{5 {stop 6} exec 7} exec", Check.STOPPED, "5");
        String[] rows = {"pop 1", "true neg 3", "-1 array 4", "-1,array 4", "nothing 5", "1,0,div 6", "161,array 7", "end 9", "] 9", "save,dup,restore,restore 10", "exit 11",
            "closepath 13", "stop 14", "a 12"};
        for (String row : rows) {
            if (row.split(" ").length == 2) {
                String text = row.split(" ")[0].replace(',', ' ');
                int failure = Integer.parseInt(row.split(" ")[1]);
                Check c = Check.fresh("/a {a} def {" + text + "} stopped clear", "").fault(failure);
                c.text(text);
                Check.same("failure of " + text, failure, c.scribe.run(500));
            }
        }
        Check.fresh("/a 1 dict def a begin {/b 1 def /c 2 def} stopped", "/c 2 true").fault(Check.FULL).used(2, 2);
        Check.fresh("{1 dict begin 1 dict begin 7 8 stop} stopped", "7 8 true").used(2, 3);
        Check.fresh("1 dict begin {end stop} stopped", "true").used(2, 1);
        Check.fresh("1 2 {pop pop stop} stopped", "true");
        Check.fresh("{} stopped {stop} stopped {7} stopped", "false true 7 false");
        Check.fresh("{{stop} stopped} stopped {{stop} stopped stop} stopped", "true false true true");
        Check.fresh("/stop cvx stopped /stop stopped", "true /stop false");
        Check.fresh("{stopped} stopped", "true").fault(Check.UNDERFLOW);
    }

    /** "true (OVERFLOW, of stopped itself, when 40 are there)", and false likewise. */
    private static void stoppedWhenFull() {
        for (int there = 37; there <= 40; there++) {
            String sevens = Check.times(there, "7");
            Check c = Check.fresh("/good {7} def /bad {7 stop} def " + Check.times(there - 1, "7"), Check.times(there - 1, "7"));
            boolean fits = there <= 39;
            c.run("/good load", 0, Check.times(there - 1, "7") + " {1}").run("stopped", fits ? 0 : Check.OVERFLOW, sevens + (fits ? " false" : ""));
            c.fault(fits ? 0 : Check.OVERFLOW);
            c.ok(fits ? "pop pop" : "pop", Check.times(there - 1, "7")).ok("/bad load", Check.times(there - 1, "7") + " {2}");
            c.run("stopped", fits ? 0 : Check.OVERFLOW, sevens + (fits ? " true" : "")).fault(fits ? Check.STOPPED : Check.OVERFLOW);
        }
        Check.fails("{{40 {7} repeat} stopped 8} stopped", Check.OVERFLOW, Check.times(40, "7"));
        Check.fresh("{{38 {7} repeat} stopped} stopped", Check.times(38, "7") + " false false");
        Check.fails("{{39 {7} repeat} stopped} stopped", Check.OVERFLOW, Check.times(39, "7") + " false");
        Check.fresh("{{36 {7} repeat} stopped 5 6} stopped", Check.times(36, "7") + " false 5 6 false");
    }

    /** "if it failed (but TIRED, which goes on)". */
    private static void tiredGoesOn() {
        new Check().run(500, "{{} loop} stopped 1", Check.TIRED, "").steps(500).fault(Check.TIRED);
        new Check().run(20, "{{{{} loop} stopped} stopped} stopped", Check.TIRED, "").steps(20);
        new Check().run(2, "{7} stopped", Check.TIRED, "").steps(2);
        new Check().run(3, "{7} stopped", 0, "7 false").steps(3);
        new Check().run(3, "{7 8} stopped", Check.TIRED, "7").steps(3);
        new Check().run(2, "7 stopped", Check.TIRED, "").steps(2);
        new Check().run(3, "{stop} stopped", 0, "true").steps(3).fault(Check.STOPPED);
        new Check().run(2, "{stop} stopped", Check.TIRED, "").steps(2).fault(Check.TIRED);
    }

    /** "fault: the number of the latest failure (those told outwards or caught; 0 if there was none)". */
    private static void faults() {
        Check c = new Check().fault(0).ok("fault", "0").fault(0);
        String[] failing = {"clear pop", "41 {7} repeat", "clear true neg", "-1 array", "nothing", "1 0 div", "161 array", "1 dict begin /a 1 def /b 1 def", "end end end",
            "clear save dup restore restore", "exit", "{{{{{", "closepath", "stop", "!", "{} loop"};
        for (int i = 0; i < failing.length; i++) {
            c.text(failing[i]);
            Check.same("failure of " + failing[i], i + 1, c.scribe.run(500));
            c.fault(i + 1).run("clear fault", 0, "" + (i + 1)).run("clear {} stopped", 0, "false").fault(i + 1);
        }
        Check.same("fuel", "IllegalArgumentException", Check.thrownBy(() -> c.scribe.run(0)));
        Check.same("kind", "IndexOutOfBoundsException", Check.thrownBy(() -> c.scribe.kind(77)));
        c.scribe.feed(2e12);
        c.scribe.write(-1L);
        c.fault(Check.TIRED);
        Check.fresh("{stop} stopped fault {pop pop pop} stopped fault", "true 1").fault(Check.UNDERFLOW);
        Check.fresh("{stop} stopped {{1 0 div} stopped fault} stopped", "true 1 0 true 6 false").fault(Check.DIVIDED);
    }

    /** run: "the number of the failure that ended it (the STACK and DICT STACK stay as they are then)". */
    private static void whatStaysAfterAFailure() {
        Check c = Check.fails("1 dict begin 5 6 {7 {8 stop} exec} exec", Check.STOPPED, "5 6 7 8").used(2, 2).used(6, 0);
        c.ok("currentdict", "5 6 7 8 dict1").ok("", "5 6 7 8 dict1");
        c.run("end 9 !", Check.SYNTAX, "5 6 7 8 dict1 9").used(2, 1);
        new Check().run(4, "5 currentdict begin 6 7", Check.TIRED, "5 6").used(2, 2);
    }
}
