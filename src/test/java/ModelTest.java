/** Many made-up texts, done by PageScribe and by the Model; every answer has to be the same after each. */
public final class ModelTest {
    private static final int OBJECTS = 4000, RUNS = 60;

    private static final String[] WORDS = Model.TABLE.replaceAll("( [a-z]+)+", "").split(",");
    private static final String[] NAMES = {"a", "b", "c", "add", "f", "longname", "x", "y", "z", "pop"};
    private static final String[] NUMBERS = {"0", "1", "2", "3", "-1", "4", "5", "7", "0.5", "-2.5", "1.0", "999999999", "-999999999", "12.3456", "40", "31"};
    private static final String[] PHRASES = {"save", "restore", "exch restore", "[1 2 3]", "3 array", "3 dict", "begin", "end", "dup",
        "{exit} loop", "{stop} stopped", "fault", "/a 5 def", "/f {1 add} def", "f", "3 {a} repeat", "[1 2] {f} forall", "1 1 5 {} for",
        "/a [1 2 3] def", "a 0 9 put", "a aload", "a 1 2 getinterval", "/b {a} def", "b", "/c /b cvx def", "c", "true {1} {2} ifelse",
        "{b} stopped", "clear", "count", "/s save def", "s restore", "s", "/d 2 dict def", "d begin", "d /x 1 put", "d /x get", "pop",
        "{restore} exec", "2 copy", "3 1 roll", "1 index", "mark 1 2 ]", "]", "cleartomark", "/a load", "/f load exec", "{1 {2 {3}}}",
        "1 1 moveto", "5 1 lineto", "5 6 lineto", "2.5 7 lineto", "closepath", "fill", "eofill", "0.5 setgray", "-3 2 lineto", "newpath",
        "/g {g} def g", "{1} loop", "{} loop", "{dup 3 gt {exit} if 1 add} loop", "/p {/p load 0 7 put p} def p", "1 31 bitshift",
        "999999999 dup mul", "1 0 div", "s dup restore", "{s restore} stopped", "{save [1] pop restore} exec", "/e {exit} def", "{e} stopped",
        "3 {e} repeat", "x cvx exec", "/x cvx", "exec", "cvx exec", "{pop} forall", "{} forall", "100 array pop", "aload pop", "currentdict",
        "{/x /y cvx def x} stopped", "/y /x cvx def", "x", "{{{1} exec} exec} exec", "20 {1} repeat", "40 {5} repeat", "2 {save} repeat"};

    private long seed;

    private ModelTest(long seed) {
        this.seed = seed;
    }

    public static void main(String[] args) {
        for (int i = 0; i < OBJECTS; i++) {
            new ModelTest(i * 7919L + 17).compare(i);
        }
        Check.finish();
    }

    private int upTo(int n) {
        seed = seed * 6364136223846793005L + 1442695040888963407L;
        return (int) ((seed >>> 33) % n);
    }

    private String one(String[] all) {
        return all[upTo(all.length)];
    }

    private String piece(int depth) {
        switch (upTo(14)) {
            case 0:
            case 1:
                return one(NUMBERS);
            case 2:
                return "/" + one(NAMES);
            case 3:
                return one(NAMES);
            case 4:
            case 5:
            case 6:
            case 7:
                return one(WORDS);
            case 8:
            case 9:
                return depth > 2 ? "1" : "{" + several(depth + 1, 4) + "}" + (upTo(2) == 0 ? " " + one(new String[] {"exec", "if", "stopped", "loop", "repeat", "forall", "cvlit"}) : "");
            case 10:
                return upTo(8) > 0 ? "pop" : one(new String[] {"?", "}", "{", "1.", "toolongname", "1234567890", "1.23456", "-", "/", "w" + (char) ('a' + upTo(26)) + (char) ('a' + upTo(3))});
            default:
                return one(PHRASES);
        }
    }

    private String several(int depth, int most) {
        StringBuilder text = new StringBuilder();
        for (int n = upTo(most + 1); n > 0; n--) {
            text.append(piece(depth)).append(' ');
        }
        return text.toString();
    }

    private void compare(int number) {
        int columns = upTo(30) - 2;
        int rows = upTo(20) - 2;
        PageScribe scribe = new PageScribe(columns, rows);
        Model model = new Model(columns, rows);
        StringBuilder story = new StringBuilder("object " + number);
        for (int run = 0; run < RUNS; run++) {
            feedBoth(scribe, model);
            String text = upTo(6) == 0 ? "clear " + several(0, 12) : several(0, 12);
            text = text.substring(0, Math.min(120, text.length()));
            int fuel = upTo(3) == 0 ? 1 + upTo(40) : 1 + upTo(500);
            story.append('\n').append(fuel).append(": ").append(text);
            Check.writeAll(scribe, text);
            model.text = text;
            int due = model.run(fuel);
            int got = scribe.run(fuel);
            String told = told(scribe);
            if (due != got || !model.told().equals(told) || !pageAlike(scribe, model)) {
                Check.same(story.toString(), due + "; " + model.told(), got + "; " + told);
                return;
            }
        }
        Check.same("object " + number, true, true);
    }

    private void feedBoth(PageScribe scribe, Model model) {
        if (upTo(10) == 0) {
            double v = (upTo(2000001) - 1000000) * (upTo(2) == 0 ? 1e6 : 0.37);
            boolean fed = scribe.feed(v);
            Check.same("feed", model.stack.size() < 40, fed);
            if (fed) {
                model.stack.add(new Model.Value(1, false, v));
            }
        }
    }

    private static boolean pageAlike(PageScribe scribe, Model model) {
        boolean alike = true;
        for (int column = 0; column < model.columns; column++) {
            for (int row = 0; row < model.rows; row++) {
                alike &= scribe.pixel(column, row) == model.levels[column][row];
            }
        }
        return alike && scribe.pixel(model.columns, 0) == -1 && scribe.pixel(0, model.rows) == -1;
    }

    private static String told(PageScribe scribe) {
        StringBuilder all = new StringBuilder();
        for (int k = 0; k < scribe.depth(); k++) {
            int kind = scribe.kind(k);
            all.append(kind).append(':').append(bodyOf(scribe, k, kind)).append(' ');
        }
        for (int which = 0; which < 7; which++) {
            all.append(which == 0 ? '|' : ' ').append(scribe.used(which));
        }
        return all.append('|').append(scribe.steps()).append(' ').append(scribe.fault()).toString();
    }

    private static String bodyOf(PageScribe scribe, int k, int kind) {
        if (kind == 1) {
            return "" + (scribe.real(k) + 0.0);
        }
        if (kind != 3 && kind != 11) {
            return "" + scribe.number(k);
        }
        StringBuilder name = new StringBuilder();
        for (int i = 0; scribe.letter(k, i) >= 0; i++) {
            name.append((char) scribe.letter(k, i));
        }
        return name.toString();
    }
}
