/** Promises 6 to 12: what is fed, and what is answered of the STACK and of what is used. */
public final class AnswersTest {
    public static void main(String[] args) {
        feed();
        depth();
        kinds();
        numbers();
        reals();
        letters();
        used();
        Check.finish();
    }

    private static void feed() {
        Check c = new Check();
        double[] fine = {0.0, -0.0, 1e12, -1e12, 1.5, Double.MIN_VALUE, -3.25};
        for (double v : fine) {
            Check.same("feed " + v, true, c.scribe.feed(v));
            Check.same("kind of " + v, 1, c.scribe.kind(0));
            Check.same("real of " + v, v, c.scribe.real(0));
        }
        double[] not = {Math.nextUp(1e12), -Math.nextUp(1e12), Double.NaN, Double.POSITIVE_INFINITY, Double.NEGATIVE_INFINITY, 1e300};
        for (double v : not) {
            Check.same("feed " + v, false, c.scribe.feed(v));
        }
        Check.same("depth", fine.length, c.scribe.depth());
        while (c.scribe.depth() < 40) {
            Check.same("feed at " + c.scribe.depth(), true, c.scribe.feed(2.0));
        }
        Check.same("41st", false, c.scribe.feed(2.0));
        Check.same("depth", 40, c.scribe.depth());
        c.fault(0).steps(0);
        c.ok("clear", "");
        Check.same("again", true, c.scribe.feed(2.5));
        c.ok("1 add", "3.5");
    }

    private static void depth() {
        Check c = new Check();
        for (int n = 1; n <= 40; n++) {
            c.text("7");
            c.scribe.run(1);
            Check.same("depth", n, c.scribe.depth());
        }
        c.text("7");
        Check.same("41st", Check.OVERFLOW, c.scribe.run(1));
        Check.same("depth", 40, c.scribe.depth());
    }

    private static final String ALL = "5 1.5 true /ab /ab cvx mark [1 2] {3} currentdict save";

    private static void kinds() {
        Check c = Check.fresh(ALL, "5 1.5 true /ab ab mark [2] {1} dict0 save1");
        int[] due = {7, 6, 13, 5, 4, 11, 3, 2, 1, 0};
        for (int k = 0; k < due.length; k++) {
            Check.same("kind " + k, due[k], c.scribe.kind(k));
        }
        outside(c, 10);
        outside(c, -1);
        outside(c, Integer.MAX_VALUE);
        outside(c, Integer.MIN_VALUE);
        c.ok("clear", "");
        outside(c, 0);
        outside(c, 1);
    }

    private static void outside(Check c, int k) {
        Check.same("kind " + k, "IndexOutOfBoundsException", Check.thrownBy(() -> c.scribe.kind(k)));
        Check.same("number " + k, "IndexOutOfBoundsException", Check.thrownBy(() -> c.scribe.number(k)));
        Check.same("real " + k, "IndexOutOfBoundsException", Check.thrownBy(() -> c.scribe.real(k)));
        Check.same("letter " + k, -1, c.scribe.letter(k, 0));
    }

    private static void numbers() {
        Check c = Check.fresh(ALL + " false -7 /cleartomark {]} 0 get 3 dict save [] {}",
            "5 1.5 true /ab ab mark [2] {1} dict0 save1 false -7 /cleartomark ] dict1 save2 [0] {0}");
        int[] due = {0, 0, 2, 1, 1, 11, -7, 0, 1, 0, 1, 2, 0, 2, 2, 1, -1, 5};
        for (int k = 0; k < due.length; k++) {
            int at = k;
            if (k == 16) {
                Check.same("number of a REAL", "IllegalStateException", Check.thrownBy(() -> c.scribe.number(at)));
            } else {
                Check.same("number " + k, due[k], c.scribe.number(k));
            }
        }
    }

    private static void reals() {
        Check c = Check.fresh(ALL + " -7 1 31 bitshift", "5 1.5 true /ab ab mark [2] {1} dict0 save1 -7 -2147483648");
        Check.same("least", -2147483648.0, c.scribe.real(0));
        Check.same("-7", -7.0, c.scribe.real(1));
        for (int k = 2; k < 10; k++) {
            int at = k;
            Check.same("real " + k, "IllegalStateException", Check.thrownBy(() -> c.scribe.real(at)));
        }
        Check.same("1.5", 1.5, c.scribe.real(10));
        Check.same("5", 5.0, c.scribe.real(11));
    }

    private static void letters() {
        Check c = Check.fresh("5 /abcdefgh /getinterval {[ ]} aload pop [1] true 1.5 mark", "5 /abcdefgh /getinterval [ ] [1] true 1.5 mark");
        String word = "abcdefgh";
        for (int i = 0; i < 8; i++) {
            Check.same("letter " + i, (int) word.charAt(i), c.scribe.letter(7, i));
        }
        Check.same("behind", -1, c.scribe.letter(7, 8));
        Check.same("before", -1, c.scribe.letter(7, -1));
        Check.same("far", -1, c.scribe.letter(7, Integer.MAX_VALUE));
        Check.same("g", (int) 'g', c.scribe.letter(6, 0));
        Check.same("l", (int) 'l', c.scribe.letter(6, 10));
        Check.same("behind", -1, c.scribe.letter(6, 11));
        Check.same("[", (int) '[', c.scribe.letter(5, 0));
        Check.same("]", (int) ']', c.scribe.letter(4, 0));
        Check.same("behind ]", -1, c.scribe.letter(4, 1));
        for (int k = 0; k < 4; k++) {
            Check.same("no NAME " + k, -1, c.scribe.letter(k, 0));
        }
        Check.same("no NAME", -1, c.scribe.letter(8, 0));
        Check.same("no VALUE", -1, c.scribe.letter(9, 0));
        Check.same("no VALUE", -1, c.scribe.letter(-1, 0));
        c.ok("clear /b /a", "/b /a");
        Check.same("a", (int) 'a', c.scribe.letter(0, 0));
        Check.same("b", (int) 'b', c.scribe.letter(1, 0));
    }

    private static void used() {
        Check c = new Check();
        c.ok("[1 2 3] {4} pop pop", "").used(0, 4);
        c.ok("2 dict 3 dict pop", "dict1").used(1, 2).used(2, 1);
        c.ok("begin", "").used(1, 2).used(2, 2);
        c.ok("save save", "save1 save2").used(3, 2);
        c.ok("1 2 moveto closepath", "save1 save2").used(4, 2);
        c.ok("/x /yy /pop {zz} pop pop pop pop", "save1 save2").used(5, 3);
        c.text("5 6").used(6, 3);
        c.used(7, -1).used(-1, -1).used(Integer.MAX_VALUE, -1).used(Integer.MIN_VALUE, -1).used(8, -1);
        c.ok("pop pop restore", "save1").used(3, 1).used(0, 4).used(4, 2).used(5, 3).used(2, 2);
        c.ok("end restore", "").used(3, 0);
    }
}
