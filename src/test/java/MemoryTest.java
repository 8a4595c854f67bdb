/** Promise 3: arrays, DICTS, the DICT STACK, save and restore. */
public final class MemoryTest {
    public static void main(String[] args) {
        arrays();
        sharing();
        intervals();
        dicts();
        dictStack();
        dictRoom();
        names();
        saves();
        restoreInvalid();
        restoreUnderWay();
        restoreKeeps();
        Check.finish();
    }

    private static void arrays() {
        Check.fresh("3 array dup aload pop", "[3] 0 0 0").used(0, 3);
        Check.fresh("0 array", "[0]").used(0, 0);
        Check.fails("-1 array", Check.RANGE, "-1");
        Check.fresh("160 array", "[160]").used(0, 160);
        Check.fails("161 array", Check.LIMIT, "161").used(0, 0);
        Check.fails("100 array 61 array", Check.LIMIT, "[100] 61").used(0, 100);
        Check.fails("999999999 array", Check.LIMIT, "999999999");
        Check.fresh("[] length [1 2 3] length {a b} length", "0 3 2");
        Check.fresh("[4 5.5 /x] dup 0 get exch dup 1 get exch 2 get", "4 5.5 /x");
        Check.fails("[4 5] 2 get", Check.RANGE, "[2] 2");
        Check.fails("[4 5] -1 get", Check.RANGE, "[2] -1");
        Check.fails("[4 5] 7 get", Check.RANGE, "[2] 7");
        Check.fails("[] 0 get", Check.RANGE, "[0] 0");
        Check.fresh("[4 5] dup 1 7.5 put aload pop", "4 7.5");
        Check.fails("[4 5] 2 9 put", Check.RANGE, "[2] 2 9");
        Check.fails("[4 5] -1 9 put", Check.RANGE, "[2] -1 9");
        Check.fails("[] 0 9 put", Check.RANGE, "[0] 0 9");
        Check.fresh("{1 2} aload", "1 2 {2}");
        Check.fresh("[] aload", "[0]");
    }

    private static void sharing() {
        Check.fresh("/a [1 2] def a dup 0 9 put a 0 get exch 1 get", "9 2");
        Check.fresh("[1 2 3] dup 1 2 getinterval 0 9 put aload pop", "1 9 3");
        Check.fresh("{1 2} dup cvlit 0 /x put 0 get", "/x");
        Check.fresh("[1 2] dup dup 0 exch put dup 0 get eq", "true");
        Check.fails("40 array aload", Check.OVERFLOW, "[40]");
        Check.fresh("39 array aload", Check.times(39, "0") + " [39]");
        Check.fails("1 39 array aload", Check.OVERFLOW, "1 [39]");
    }

    private static void intervals() {
        Check.fresh("[1 2 3 4] 1 2 getinterval aload pop", "2 3");
        Check.fresh("[1 2 3] 0 3 getinterval [1 2 3] 3 0 getinterval", "[3] [0]");
        Check.fresh("{1 2 3} 1 1 getinterval {1} cvlit 0 1 getinterval", "{1} [1]");
        Check.fresh("[1 2 3 4] 1 3 getinterval 1 2 getinterval aload pop", "3 4").used(0, 4);
        Check.fails("[1 2 3] 1 3 getinterval", Check.RANGE, "[3] 1 3");
        Check.fails("[1 2 3] 4 0 getinterval", Check.RANGE, "[3] 4 0");
        Check.fails("[1 2 3] -1 1 getinterval", Check.RANGE, "[3] -1 1");
        Check.fails("[1 2 3] 1 -1 getinterval", Check.RANGE, "[3] 1 -1");
        Check.fails("[1 2 3] 2 1 31 bitshift not getinterval", Check.RANGE, "[3] 2 2147483647");
        Check.fails("[1 2 3] 1 31 bitshift not dup getinterval", Check.RANGE, "[3] 2147483647 2147483647");
        Check.fresh("160 array 160 0 getinterval length", "0");
    }

    private static void dicts() {
        Check.fresh("3 dict dup /a 5 put dup /a get exch length", "5 1").used(1, 1);
        Check.fresh("3 dict dup /a 5 put dup /a 6 put dup /a get exch length", "6 1");
        Check.fails("3 dict /a get", Check.UNDEFINED, "dict1 /a");
        Check.fails("3 dict /add get", Check.UNDEFINED, "dict1 /add");
        Check.fresh("3 dict dup /a cvx 5 put /a get", "5");
        Check.fresh("3 dict dup /a 5 put dup /a known exch dup /b known exch /a cvx known", "true false true");
        Check.fails("2 dict dup /a 1 put dup /b 2 put dup /c 3 put", Check.FULL, "dict1 dict1 /c 3");
        Check.fresh("2 dict dup /a 1 put dup /b 2 put dup /a 3 put dup /a get exch /b get", "3 2");
        Check.fresh("currentdict /a 5 put a", "5");
        Check.fresh("/a 5 def currentdict /a get currentdict /a known /a load", "5 true 5");
        Check.fresh("3 dict dup /a 5 put dup /a get exch /a known", "5 true");
        Check.fresh("1 dict 10 dict", "dict1 dict2");
        Check.fails("0 dict", Check.RANGE, "0");
        Check.fails("11 dict", Check.RANGE, "11");
        Check.fails("-1 dict", Check.RANGE, "-1");
        Check.fresh(Check.times(6, "1 dict"), "dict1 dict2 dict3 dict4 dict5 dict6").used(1, 6)
            .run("1 dict", Check.LIMIT, "dict1 dict2 dict3 dict4 dict5 dict6 1").used(1, 6)
            .run("pop 0 dict", Check.RANGE, "dict1 dict2 dict3 dict4 dict5 dict6 0");
        Check c = new Check();
        c.ok("6 {10 dict} repeat", "dict1 dict2 dict3 dict4 dict5 dict6");
        for (int d = 1; d <= 6; d++) {
            c.ok((6 - d) + " index begin /d " + d + " def /e " + d + "0 def end", "dict1 dict2 dict3 dict4 dict5 dict6");
        }
        c.ok("begin d e end", "dict1 dict2 dict3 dict4 dict5 6 60").ok("pop pop begin d e end", "dict1 dict2 dict3 dict4 5 50");
        c.ok("pop pop begin d e end", "dict1 dict2 dict3 4 40").ok("pop pop begin d e end", "dict1 dict2 3 30");
        c.ok("pop pop begin d e end", "dict1 2 20").ok("pop pop begin d e end", "1 10");
        twoDicts();
    }

    /** Two DICTS side by side, both filled. */
    private static void twoDicts() {
        Check c = Check.fresh("3 dict 3 dict", "dict1 dict2");
        c.ok("1 index begin /a 1 def /b 2 def /c 3 def end", "dict1 dict2");
        c.ok("dup begin /d 4 def /b 5 def /c 6 def end", "dict1 dict2");
        c.ok("begin d b c end 3 index begin a b c", "dict1 4 5 6 1 2 3").run("d", Check.UNDEFINED, "dict1 4 5 6 1 2 3");
    }

    private static void dictStack() {
        Check.fresh("3 dict begin /a 1 def a end currentdict /a known", "1 false").used(2, 1);
        Check.fresh("/a 1 def 3 dict begin a /a 2 def a end a", "1 2 1");
        Check.fresh("3 dict dup begin currentdict eq end currentdict", "true dict0");
        Check.fails("end", Check.UNMATCHED, "").used(2, 1);
        Check.fails("3 dict begin end end", Check.UNMATCHED, "");
        Check.fresh("3 dict 5 {dup begin} repeat", "dict1").used(2, 6)
            .run("dup begin", Check.LIMIT, "dict1 dict1").used(2, 6)
            .ok("pop end", "dict1").used(2, 5);
        Check.fresh("currentdict begin", "").used(2, 2);
        Check.fresh("/a 7 def 3 dict begin 3 dict begin /a load", "7");
        Check.fails("/a load", Check.UNDEFINED, "/a");
        Check.fails("/add load", Check.UNDEFINED, "/add");
        Check.fresh("/p {1 2} def /p load /q /r cvx def /q load", "{2} r");
        Check.fails("1 dict begin /a 1 def /b 2 def", Check.FULL, "/b 2").used(2, 2);
    }

    private static void dictRoom() {
        Check c = new Check();
        for (int i = 0; i < 20; i++) {
            c.ok("/" + (char) ('a' + i) + " " + i + " def", "");
        }
        c.run("/u 20 def", Check.FULL, "/u 20").ok("pop pop currentdict length", "20");
        c.ok("pop a t add /a 50 def a", "19 50");
        allFull();
    }

    private static String entries(int first, int n, int value) {
        StringBuilder text = new StringBuilder();
        for (int i = first; i < first + n; i++) {
            text.append('/').append((char) ('a' + i)).append(' ').append(value + i).append(" def ");
        }
        return text.toString();
    }

    /** Every DICT filled up at once: no ENTRY of one is another's. */
    private static void allFull() {
        Check c = new Check();
        c.ok(entries(0, 10, 0), "").ok(entries(10, 10, 0), "");
        for (int d = 1; d <= 6; d++) {
            c.ok("10 dict begin " + entries(0, 5, 100 * d), "").ok(entries(5, 5, 100 * d), "");
            c.run("/k 1 def", Check.FULL, "/k 1").ok("clear currentdict end", "dict" + d).ok("pop", "");
        }
        c.ok("a j k t", "0 9 10 19").run("clear 1 dict", Check.LIMIT, "1");
        c.ok("clear currentdict length", "20").used(1, 6);
    }

    private static void names() {
        Check.fresh("/x 5 def x /y 1.5 def y /z /x def z", "5 1.5 /x");
        Check.fresh("/x {1 2 add} def x", "3");
        Check.fresh("/x [1 2] def x", "[2]");
        Check.fresh("/x /y cvx def /y {3} def x", "3").steps(10);
        Check.fresh("/x /add cvx def 1 2 x", "3");
        Check.fails("/x /y cvx def x", Check.UNDEFINED, "");
        Check.fails("nothing", Check.UNDEFINED, "").steps(1);
        Check.fresh("/add {sub} def 5 3 add", "2");
        Check.fresh("/pop 7 def pop pop", "7 7").used(5, 0);
        Check.fresh("{add} 0 get 4 def add /add load", "4 4");
        Check.fresh("/x mark def x /d 3 dict def d /s save def s", "mark dict1 save1");
    }

    private static void saves() {
        Check.fresh("save save", "save1 save2").used(3, 2);
        Check.fresh("save restore save", "save2").used(3, 1);
        Check.fails("save save save save", Check.LIMIT, "save1 save2 save3").used(3, 3);
        Check.fresh("save [1 2 3] pop restore", "").used(0, 0).used(3, 0);
        Check.fresh("/a [1 2] def save a 0 9 put a 1 /x put restore a aload pop", "1 2");
        Check.fresh("/a [1 2] def save /a 7 def /b 8 def restore /a load currentdict /b known", "[2] false");
        Check.fresh("3 dict dup /x 1 put save 1 index /x 2 put 1 index /y 3 put restore dup length exch /x get", "1 1").used(1, 1);
        Check.fresh("save 3 dict /x 5 put restore 4 dict length", "0").used(1, 1);
        Check.fresh("save 3 dict pop restore 2 dict dup /a 1 put dup /b 2 put length", "2");
        Check.fresh("1 dict save 2 dict pop 3 dict pop restore 4 dict 5 dict", "dict1 dict2 dict3").used(1, 3);
        Check.fresh("save save save 3 1 roll pop pop restore", "").used(3, 2);
        Check.fresh("save /s exch def save /t exch def s restore", "").used(3, 0);
        Check.fresh("save dup /s exch def save pop s restore", "save1").used(3, 0);
        Check.fresh("/a [1] def save a 0 2 put save a 0 3 put restore a 0 get exch restore a 0 get", "2 1");
        Check.fresh("/a [1] def save a 0 2 put save pop a 0 3 put restore a 0 get", "1").used(3, 0);
        Check.fresh("/a 0 def save 160 array pop restore 160 array", "[160]");
    }

    private static void restoreInvalid() {
        Check.fails("save dup restore restore", Check.INVALID, "save1").used(3, 0);
        Check.fails("save [1] exch restore", Check.INVALID, "[1] save1").used(3, 1).used(0, 1);
        Check.fails("save {1} exch restore", Check.INVALID, "{1} save1");
        Check.fresh("save [] exch restore", "[0]");
        Check.fresh("save {} exch restore", "{0}");
        Check.fresh("save [1 2] 2 0 getinterval exch restore", "[0]").used(0, 0);
        Check.fails("save [1 2] 1 1 getinterval exch restore", Check.INVALID, "[1] save1");
        Check.fresh("[1 2] save exch pop [3] pop [1 2] pop restore", "").used(0, 2);
        Check.fresh("[1 2] save restore", "[2]");
        Check.fails("save 3 dict exch restore", Check.INVALID, "dict1 save1");
        Check.fresh("3 dict save restore", "dict1");
        Check.fails("save 3 dict begin restore", Check.INVALID, "save1").used(2, 2);
        Check.fresh("3 dict begin save restore", "").used(2, 2).used(1, 1);
        Check.fails("save save exch restore", Check.INVALID, "save2 save1").used(3, 2);
        Check.fails("save save dup restore exch restore", Check.INVALID, "save2 save1").used(3, 1);
        Check.fresh("save dup save exch pop restore", "save1").used(3, 1);
        Check.fails("save save exch /s exch def restore s restore s restore", Check.UNDEFINED, "");
        Check.fresh("save save pop dup restore", "save1").used(3, 0);
        Check.fresh("save /a cvx exch mark exch 1.5 exch restore", "a mark 1.5");
        Check.fresh("save [1] pop restore [2] 0 get", "2");
    }

    private static void restoreUnderWay() {
        Check.fails("save {restore} exec", Check.INVALID, "save1").used(3, 1);
        Check.fresh("{restore} save exch exec", "").used(3, 0);
        Check.fails("/s save def {s restore} exec", Check.INVALID, "save1");
        Check.fails("/r {restore} def save {r} exec", Check.INVALID, "save1");
        Check.fresh("/r {restore} def save r", "").used(3, 0);
        Check.fresh("save [1] {pop} forall restore", "").used(0, 0);
        Check.fresh("save {7} exec pop {} stopped pop restore", "").used(0, 0);
        Check.fresh("save 2 {} repeat 1 1 2 {pop} for {exit} loop restore", "").used(0, 0);
        Check.fresh("save {{stop} exec} stopped pop restore save [1] {stop} stopped clear", "").used(3, 1);
        Check.fresh("/s save def [1 2] {stop} stopped {forall} stopped clear {[1] {x} forall} stopped clear s restore", "").used(0, 0);
        Check.fails("/r {exit} def {pop restore} save [1] 2 index forall", Check.INVALID, "{2} save1");
        Check.fails("{pop restore} save exch [1] exch forall", Check.INVALID, "save1");
        Check.fresh("[1] {pop restore} save 3 1 roll forall", "").used(3, 0).used(0, 3);
        Check.fresh("{pop restore} [1] save 3 1 roll exch forall", "").used(3, 0);
        Check.fails("save true {restore} if", Check.INVALID, "save1");
        Check.fails("save 1 {restore} repeat", Check.INVALID, "save1");
        Check.fails("save {restore} loop", Check.INVALID, "save1");
        Check.fails("save {restore} stopped pop 1 1 1 {pop restore} for", Check.INVALID, "save1");
        Check.fresh("/r /restore cvx def save r", "").used(3, 0);
        Check.fresh("{save [1] pop restore 5} exec", "5").used(0, 7);
        Check.fresh("/p {save /p load 7 9 put restore 8 7} def p p", "8 7 8 7").used(0, 9);
        Check.fresh("/p {/p load 6 9 put 8 7} def save p 3 -1 roll restore /p load 6 get", "8 9 7");
        Check.fresh("{1} pop {restore 2} save exch exec save {3} exec pop restore", "2").used(3, 0);
    }

    private static void restoreKeeps() {
        Check c = new Check();
        c.ok("1 setgray save 0.5 setgray 1 1 moveto 4 1 lineto 4 4 lineto /word pop", "save1");
        c.ok("7 exch currentdict begin restore", "7").used(4, 3).used(5, 1).used(2, 2);
        c.ok("fill end", "7").pixel(3, 2, 8);
        c.ok("save 0 0 moveto 2 0 lineto 2 2 lineto 0 2 lineto fill restore", "7").pixel(1, 1, 8);
        c.run("save pop pop pop", Check.UNDERFLOW, "").used(3, 1).fault(Check.UNDERFLOW);
        c.ok("save", "save4");
    }
}
