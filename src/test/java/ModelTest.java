/** Many made-up texts, done by PageScribe and by the Model; their answers have to be the same. */
public final class ModelTest {
    /** Within the 512 calls that an object is promised for. */
    private static final int OBJECTS = 12000, MOST_CALLS = 512, CALLS_TO_TELL = 290;

    private static final String[] WORDS = Model.TABLE.replaceAll("( [a-z]+)+", "").split(",");
    private static final String[] NAMES = {"a", "b", "c", "add", "f", "longname", "x", "y", "z", "pop"};
    private static final String[] NUMBERS = {"0", "1", "2", "3", "-1", "4", "5", "7", "0.5", "-2.5", "1.0", "999999999", "-999999999", "12.3456", "40", "31"};
    private static final String[] PHRASES = {"save", "restore", "exch restore", "[1 2 3]", "3 array", "3 dict", "begin", "end", "dup",
        "{exit} loop", "{stop} stopped", "fault", "/a 5 def", "/f {1 add} def", "f", "3 {a} repeat", "[1 2] {f} forall", "1 1 5 {} for",
        "/a [1 2 3] def", "a 0 9 put", "a aload", "a 1 2 getinterval", "/b {a} def", "b", "/c /b cvx def", "c", "true {1} {2} ifelse",
        "{b} stopped", "clear", "count", "/s save def", "s restore", "s", "/d 2 dict def", "d begin", "d /x 1 put", "d /x get", "pop",
        "{restore} exec", "2 copy", "3 1 roll", "1 index", "mark 1 2 ]", "]", "cleartomark", "/a load", "/f load exec", "{1 {2 {3}}}",
        "1 1 moveto", "5 1 lineto", "5 6 lineto", "2.5 7 lineto", "closepath", "fill", "eofill", "0.5 setgray", "-3 2 lineto", "newpath",
        "/g {g} def g", "{1} loop", "{} loop", "{dup 3 gt {exit} if 1 add} loop", "/p {/p load 0 7 put p} def p", "1 31 bitshift",
        "999999999 dup mul", "1 0 div", "s dup restore", "{s restore} stopped", "{save [1] pop restore} exec", "/e {exit} def", "{e} stopped",
        "3 {e} repeat", "x cvx exec", "/x cvx", "exec", "cvx exec", "{pop} forall", "{} forall", "100 array pop", "aload pop", "currentdict",
        "{/x /y cvx def x} stopped", "/y /x cvx def", "x", "{{{1} exec} exec} exec", "20 {1} repeat", "40 {5} repeat", "2 {save} repeat"};

    private long seed;

    private ModelTest(long seed) {
        this.seed = seed;
    }

    /** For a longer search by hand: the number of the first object, and how many there are to be. */
    public static void main(String[] args) {
        int first = args.length > 0 ? Integer.parseInt(args[0]) : 0;
        int objects = args.length > 1 ? Integer.parseInt(args[1]) : OBJECTS;
        for (int i = first; i < first + objects; i++) {
            new ModelTest(i * 7919L + 17).compare(i);
        }
        Check.finish();
    }

    private int upTo(int n) {
        seed = seed * 6364136223846793005L + 1442695040888963407L;
        return (int) ((seed >>> 33) % n);
    }

    private String one(String[] all) {
        return all[upTo(all.length)];
    }

    private String piece(int depth) {
        switch (upTo(14)) {
            case 0:
            case 1:
                return one(NUMBERS);
            case 2:
                return "/" + one(NAMES);
            case 3:
                return one(NAMES);
            case 4:
            case 5:
            case 6:
            case 7:
                return one(WORDS);
            case 8:
            case 9:
                return depth > 2 ? "1" : "{" + several(depth + 1, 4) + "}" + (upTo(2) == 0 ? " " + one(new String[] {"exec", "if", "stopped", "loop", "repeat", "forall", "cvlit"}) : "");
            case 10:
                return upTo(8) > 0 ? "pop" : one(new String[] {"?", "}", "{", "1.", "toolongname", "1234567890", "1.23456", "-", "/", "w" + (char) ('a' + upTo(26)) + (char) ('a' + upTo(3))});
            default:
                return one(PHRASES);
        }
    }

    private String several(int depth, int most) {
        StringBuilder text = new StringBuilder();
        for (int n = upTo(most + 1); n > 0; n--) {
            text.append(piece(depth)).append(' ');
        }
        return text.toString();
    }

    /** A word of an operator that finds on the Model's STACK what it takes, if a few tries find one. */
    private String fitting(Model model) {
        String word = one(WORDS);
        for (int i = 0; i < 12 && !model.couldDo(word); i++) {
            word = one(WORDS);
        }
        return word;
    }

    private String textFor(Model model) {
        String start = upTo(9) == 0 ? "clear " : upTo(2) == 0 ? fitting(model) + " " : "";
        String text = start + several(0, upTo(3) == 0 ? 12 : 3);
        return text.substring(0, Math.min(120, text.length()));
    }

    private void compare(int number) {
        int columns = upTo(30) - 2;
        int rows = upTo(20) - 2;
        PageScribe scribe = new PageScribe(columns, rows);
        Model model = new Model(columns, rows);
        StringBuilder story = new StringBuilder("object " + number);
        int calls = 0;
        while (calls < MOST_CALLS - CALLS_TO_TELL) {
            calls += feedBoth(scribe, model);
            String text = textFor(model);
            int fuel = upTo(3) == 0 ? 1 + upTo(40) : 1 + upTo(500);
            story.append('\n').append(fuel).append(": ").append(text);
            Check.writeAll(scribe, text);
            model.text = text;
            String due = model.run(fuel) + " steps " + model.steps + " fault " + model.fault + " depth " + model.stack.size();
            String got = scribe.run(fuel) + " steps " + scribe.steps() + " fault " + scribe.fault() + " depth " + scribe.depth();
            calls += 4 + (text.length() + 7) / 8;
            if (!due.equals(got)) {
                Check.same(story.toString(), due, got);
                return;
            }
        }
        Check.same(story.toString(), model.told(), told(scribe));
        comparePages(story.toString(), scribe, model);
    }

    private int feedBoth(PageScribe scribe, Model model) {
        if (upTo(10) > 0) {
            return 0;
        }
        double v = (upTo(2000001) - 1000000) * (upTo(2) == 0 ? 1e6 : 0.37);
        boolean fed = scribe.feed(v);
        Check.same("feed", model.stack.size() < 40, fed);
        if (fed) {
            model.stack.add(new Model.Value(1, false, v));
        }
        return 1;
    }

    private void comparePages(String story, PageScribe scribe, Model model) {
        for (int i = 0; i < 50; i++) {
            int column = upTo(model.columns + 2) - 1;
            int row = upTo(model.rows + 2) - 1;
            boolean there = column >= 0 && column < model.columns && row >= 0 && row < model.rows;
            Check.same(story + "\n" + column + ", " + row, there ? model.levels[column][row] : -1, scribe.pixel(column, row));
        }
        Check.same(story + "\npage", model.painted(), scribe.page());
    }

    /** What the Model tells in told(). */
    private static String told(PageScribe scribe) {
        StringBuilder all = new StringBuilder();
        for (int k = 0; k < scribe.depth(); k++) {
            int kind = scribe.kind(k);
            all.append(kind).append(':');
            if (kind == 1) {
                all.append(scribe.real(k) + 0.0);
            } else if (kind == 3 || kind == 11) {
                all.append(k < Model.SPELLED ? nameOf(scribe, k) : "" + scribe.number(k));
            } else {
                all.append(scribe.number(k));
            }
            all.append(' ');
        }
        for (int which = 0; which < 7; which++) {
            all.append(which == 0 ? '|' : ' ').append(scribe.used(which));
        }
        return all.append('|').append(scribe.steps()).append(' ').append(scribe.fault()).toString();
    }

    private static String nameOf(PageScribe scribe, int k) {
        StringBuilder name = new StringBuilder();
        for (int i = 0; scribe.letter(k, i) >= 0; i++) {
            name.append((char) scribe.letter(k, i));
        }
        return name.toString();
    }
}
