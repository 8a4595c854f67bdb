/** The edges of THE PAGE, GRAY, the PATH, pixel and page, in the document's order. */
public final class PageEdgesTest {
    public static void main(String[] args) {
        everySize();
        grays();
        everyLevel();
        places();
        points();
        parts();
        pixelCentres();
        slopes();
        upsAndDowns();
        emptyPaths();
        levelsPainted();
        pages();
        Check.finish();
    }

    /** "A page of so many columns (1 .. 24, else 16) and rows (1 .. 16, else 12; each for itself)". */
    private static void everySize() {
        for (int columns = -1; columns <= 26; columns++) {
            for (int rows = -1; rows <= 18; rows++) {
                PageScribe scribe = new PageScribe(columns, rows);
                int wide = columns >= 1 && columns <= 24 ? columns : 16;
                int high = rows >= 1 && rows <= 16 ? rows : 12;
                String what = columns + " by " + rows;
                corners(what, scribe, wide, high, 0);
                Check.same(what, true, Check.writeAll(scribe, "-1 -1 moveto 99 -1 lineto 99 99 lineto -1 99 lineto fill"));
                Check.same(what, 0, scribe.run(99));
                corners(what, scribe, wide, high, 15);
                Check.same("page " + what, wide * high, scribe.page());
                corners(what, scribe, wide, high, 0);
            }
        }
        int[] odd = {Integer.MIN_VALUE, Integer.MAX_VALUE, 1 << 16, -24, 256, 25};
        for (int one : odd) {
            corners("odd columns " + one, new PageScribe(one, 3), 16, 3, 0);
            corners("odd rows " + one, new PageScribe(3, one), 3, 12, 0);
            corners("both odd " + one, new PageScribe(one, one), 16, 12, 0);
        }
    }

    /** pixel: "The LEVEL of a pixel; -1 when there is no such one". */
    private static void corners(String what, PageScribe scribe, int wide, int high, int level) {
        int[][] there = {{0, 0}, {wide - 1, 0}, {0, high - 1}, {wide - 1, high - 1}};
        int[][] not = {{-1, 0}, {0, -1}, {wide, 0}, {0, high}, {wide - 1, high}, {wide, high - 1}, {-1, high - 1}, {wide - 1, -1},
            {Integer.MAX_VALUE, 0}, {0, Integer.MAX_VALUE}, {Integer.MIN_VALUE, 0}, {0, Integer.MIN_VALUE}, {wide * high, 0}, {-1, 1}};
        for (int[] p : there) {
            Check.same("pixel " + p[0] + ", " + p[1] + " of " + what, level, scribe.pixel(p[0], p[1]));
        }
        for (int[] p : not) {
            Check.same("pixel " + p[0] + ", " + p[1] + " of " + what, -1, scribe.pixel(p[0], p[1]));
        }
    }

    private static Check fed(double... values) {
        Check c = new Check(6, 4);
        for (double v : values) {
            Check.same("feed " + v, true, c.scribe.feed(v));
        }
        return c;
    }

    private static final String ALL = "0 0 moveto 6 0 lineto 6 4 lineto 0 4 lineto ";

    /** "GRAY is a float, 1 at first"; "a setgray: GRAY is the float of a (RANGE: a is not 0 .. 1)". */
    private static void grays() {
        new Check(6, 4).ok(ALL + "fill", "").pixel(0, 0, 15);
        double[] fine = {0.0, -0.0, Double.MIN_VALUE, 0.5, Math.nextDown(1.0), 1.0};
        int[] levels = {0, 0, 0, 8, 15, 15};
        for (int i = 0; i < fine.length; i++) {
            fed(fine[i]).ok("setgray " + ALL + "fill", "").pixel(0, 0, levels[i]);
        }
        double[] not = {-Double.MIN_VALUE, Math.nextUp(1.0), -1.0, 2.0, 1e12, -1e12};
        for (double v : not) {
            fed(0.5, v).run("exch setgray setgray", Check.RANGE, "" + v).ok("pop " + ALL + "fill", "").pixel(0, 0, 8);
        }
        Twins.refuses("setgray", Check.RANGE, "0.5 setgray 2");
        Twins.refuses("setgray", Check.RANGE, "0.5 setgray -1");
        Twins.refuses("setgray", Check.RANGE, "0.5 setgray 1.0001");
        Check.fresh("0 setgray 1 setgray 0 setgray", "");
    }

    /** "the LEVEL 15 * GRAY + 0.5, in floats, cut to an int", on both sides of each step. */
    private static void everyLevel() {
        for (int level = 1; level <= 15; level++) {
            float step = (float) ((level - 0.5) / 15.0);
            for (float near = step - 4 * Math.ulp(step); near <= step + 4 * Math.ulp(step); near = Math.nextUp(near)) {
                fed(near).ok("setgray " + ALL + "fill", "").pixel(3, 2, (int) (15f * near + 0.5f));
            }
            fed((level - 0.6) / 15.0).ok("setgray " + ALL + "fill", "").pixel(3, 2, level - 1);
            fed((level - 0.4) / 15.0).ok("setgray " + ALL + "eofill", "").pixel(3, 2, level);
        }
        double inFloats = Math.nextDown(0.1);
        Check.same("in doubles", 1, (int) (15 * inFloats + 0.5));
        fed(inFloats).ok("setgray " + ALL + "fill", "").pixel(3, 2, 2);
    }

    /** "(RANGE: a or b is above 1e6 or below -1e6; NOPOINT, not for moveto: there is none; LIMIT.)". */
    private static void places() {
        double[] fine = {1e6, -1e6, Math.nextDown(1e6), 0.0, Double.MIN_VALUE};
        double[] not = {Math.nextUp(1e6), -Math.nextUp(1e6), 1e12, -1e12, 1000001.0};
        for (double v : fine) {
            fed(v, 2.0).ok("moveto", "").used(4, 1);
            fed(2.0, v).ok("moveto", "").used(4, 1);
            fed(v, 2.0).ok("0 0 moveto lineto", "").used(4, 2);
            fed(2.0, v).ok("0 0 moveto lineto", "").used(4, 2);
        }
        for (double v : not) {
            fed(v, 2.0).run("moveto", Check.RANGE, v + " 2.0").used(4, 0);
            fed(2.0, v).run("moveto", Check.RANGE, "2.0 " + v).used(4, 0);
            fed(v, 2.0).run("0 0 moveto lineto", Check.RANGE, v + " 2.0").used(4, 1);
            fed(2.0, v).run("0 0 moveto lineto", Check.RANGE, "2.0 " + v).used(4, 1);
            fed(v, 2.0).run("lineto", Check.RANGE, v + " 2.0").used(4, 0);
        }
        Twins.refuses("moveto", Check.RANGE, "0 0 moveto 3 0 lineto 3 2 lineto", "1000001 1");
        Twins.refuses("lineto", Check.RANGE, "0 0 moveto 3 0 lineto 3 2 lineto", "1 -1000001");
        Check.fresh("1000000 -1000000 moveto -1000000 1000000 lineto", "").used(4, 2);
    }

    /** "POINTS .., 30 at most in all (none at first)"; "newpath: the PATH is empty". */
    private static void points() {
        Twins.refuses("lineto", Check.NOPOINT, "1 1");
        Twins.refuses("closepath", Check.NOPOINT);
        Twins.refuses("lineto", Check.NOPOINT, "1 1 moveto newpath 1 1");
        Twins.refuses("closepath", Check.NOPOINT, "1 1 moveto fill");
        Twins.refuses("closepath", Check.NOPOINT, "1 1 moveto eofill");
        String[] more = {"1 1 moveto", "1 1 lineto", "closepath"};
        for (String one : more) {
            Check c = new Check().ok("1 1 moveto", "").used(4, 1);
            for (int n = 2; n <= 30; n++) {
                c.ok(one, "").used(4, n);
            }
            for (String next : more) {
                c.run(next, Check.LIMIT, next.equals("closepath") ? "" : "1 1").used(4, 30).ok("clear", "");
            }
            c.ok("newpath", "").used(4, 0).ok("newpath", "").used(4, 0).run("closepath", Check.NOPOINT, "").ok("1 1 moveto", "").used(4, 1);
        }
        Check thirty = Check.fresh("0 0 moveto 28 {9 0 lineto} repeat 9 9 lineto", "").used(4, 30).run("0 9 lineto", Check.LIMIT, "0 9");
        thirty.ok("clear fill", "").pixel(8, 3, 15).pixel(3, 8, 0).used(4, 0);
    }

    /** "a new PART with the POINT a, b; one more in the latest PART; closepath: one more, the first one of the latest PART". */
    private static void parts() {
        shows("1 1 moveto 3 1 lineto 3 3 lineto 1 3 lineto 4 1 moveto 6 1 lineto 6 3 lineto 4 3 lineto fill", "....../.ff.ff/.ff.ff/......");
        shows("4 1 moveto 6 1 lineto 6 3 lineto 4 3 lineto 0 0 moveto fill", "....../....ff/....ff/......");
        shows("5 0 moveto 0 1 moveto 2 1 lineto 2 3 lineto closepath 0 3 lineto fill", "....../ff..../.f..../......");
        shows("0 0 moveto 2 0 lineto 2 2 lineto closepath closepath closepath fill", "ff..../.f..../....../......");
        shows("0 0 moveto 6 0 lineto 6 4 lineto closepath 0 4 lineto fill", ".fffff/..ffff/....ff/.....f");
    }

    private static void shows(String text, String due) {
        Check c = new Check(6, 4);
        c.ok(text, "");
        Check.same(text, due, picture(c.scribe));
        c.used(4, 0);
    }

    private static String picture(PageScribe scribe) {
        StringBuilder told = new StringBuilder();
        for (int row = 0; row < 4; row++) {
            told.append(row == 0 ? "" : "/");
            for (int column = 0; column < 6; column++) {
                int level = scribe.pixel(column, row);
                told.append(level == 0 ? '.' : Character.forDigit(level, 16));
            }
        }
        return told.toString();
    }

    /** A box from (x0, y0) to (x1, y1), round either way. */
    private static Check box(double x0, double y0, double x1, double y1, boolean turned, String paint) {
        Check c = turned ? fed(x0, y0, x0, y1, x1, y1, x1, y0) : fed(x0, y0, x1, y0, x1, y1, x0, y1);
        c.ok("moveto lineto lineto lineto " + paint, "");
        return c;
    }

    /** "cx = column + 0.5, cy = row + 0.5"; UP "if y0 <= cy < y1 and s > 0", DOWN "if y1 <= cy < y0 and s < 0". */
    private static void pixelCentres() {
        double under = Math.nextDown(1.5);
        double over = Math.nextUp(1.5);
        String[] paints = {"fill", "eofill"};
        for (String paint : paints) {
            for (int way = 0; way < 2; way++) {
                boolean turned = way == 1;
                box(0.5, 1.5, 2.5, 2.5, turned, paint).pixel(0, 1, 15).pixel(1, 1, 15).pixel(0, 2, 0).pixel(1, 0, 0);
                box(0.0, 1.5, 3.0, over, turned, paint).pixel(1, 1, 15).pixel(1, 0, 0).pixel(1, 2, 0);
                box(0.0, over, 3.0, 2.0, turned, paint).pixel(1, 1, 0);
                box(0.0, 1.0, 3.0, 1.5, turned, paint).pixel(1, 1, 0);
                box(0.0, under, 3.0, 1.5, turned, paint).pixel(1, 1, 0);
                box(0.0, 1.0, 3.0, over, turned, paint).pixel(1, 1, 15);
                box(1.5, 1.0, 2.0, 2.0, turned, paint).pixel(1, 1, sidesOf(1.5, 2.0));
                box(over, 1.0, 2.0, 2.0, turned, paint).pixel(1, 1, sidesOf(over, 2.0));
                box(under, 1.0, 2.0, 2.0, turned, paint).pixel(1, 1, sidesOf(under, 2.0));
                box(1.0, 1.0, 1.5, 2.0, turned, paint).pixel(1, 1, sidesOf(1.0, 1.5));
                box(1.0, 1.0, over, 2.0, turned, paint).pixel(1, 1, sidesOf(1.0, over));
                box(1.0, 1.0, under, 2.0, turned, paint).pixel(1, 1, sidesOf(1.0, under));
            }
        }
    }

    /** An upright EDGE goes past what is left of it, but not past what is right on it. */
    private static int sidesOf(double x0, double x1) {
        return 1.5 < x1 && !(1.5 < x0) ? 15 : 0;
    }

    /** s on both sides of 0, by the least difference there is. */
    private static void slopes() {
        double[] xs = {0.0, Math.nextDown(3.0), 3.0, Math.nextUp(3.0), 6.0};
        for (double a : xs) {
            for (double b : xs) {
                tryTriangle(new double[][] {{a, 0.0}, {b, 3.0}, {9.0, 1.0}});
                tryTriangle(new double[][] {{b, 3.0}, {a, 0.0}, {9.0, 1.0}});
                tryTriangle(new double[][] {{a, 0.5}, {b, 2.5}, {-9.0, 1.5}});
                tryTriangle(new double[][] {{a, 3.5}, {b, 0.5}, {2.5, Math.nextUp(2.5)}});
            }
        }
    }

    private static void tryTriangle(double[][] p) {
        for (int way = 0; way < 2; way++) {
            Check c = fed(p[2][0], p[2][1], p[1][0], p[1][1], p[0][0], p[0][1]).ok("moveto lineto lineto " + (way == 0 ? "fill" : "eofill"), "");
            for (int row = 0; row < 4; row++) {
                for (int column = 0; column < 6; column++) {
                    int ups = 0;
                    int downs = 0;
                    for (int i = 0; i < 3; i++) {
                        int past = past(p[i], p[(i + 1) % 3], column + 0.5, row + 0.5);
                        ups += past > 0 ? 1 : 0;
                        downs += past < 0 ? 1 : 0;
                    }
                    boolean inside = way == 0 ? ups != downs : (ups + downs) % 2 == 1;
                    c.pixel(column, row, inside ? 15 : 0);
                }
            }
        }
    }

    private static int past(double[] from, double[] to, double cx, double cy) {
        double s = (to[0] - from[0]) * (cy - from[1]) - (cx - from[0]) * (to[1] - from[1]);
        if (from[1] <= cy && cy < to[1] && s > 0) {
            return 1;
        }
        return to[1] <= cy && cy < from[1] && s < 0 ? -1 : 0;
    }

    private static String rounds(int right, int left) {
        return "/r {0 0 moveto 6 0 lineto 6 4 lineto 0 4 lineto} def /l {0 0 moveto 0 4 lineto 6 4 lineto 6 0 lineto} def "
            + right + " {r} repeat " + left + " {l} repeat ";
    }

    /** "INSIDE: not as many go UP as DOWN (fill), the number of those that go UP or DOWN is odd (eofill)". */
    private static void upsAndDowns() {
        for (int right = 0; right <= 7; right++) {
            for (int left = 0; left + right <= 7; left++) {
                String[] halves = rounds(right, left).split(" def ");
                Check filled = new Check(6, 4).ok(halves[0] + " def", "").ok(halves[1] + " def", "").ok(halves[2] + "fill", "");
                filled.pixel(0, 0, right != left ? 15 : 0).pixel(5, 3, right != left ? 15 : 0).used(4, 0);
                Check odd = new Check(6, 4).ok(halves[0] + " def", "").ok(halves[1] + " def", "").ok(halves[2] + "eofill", "");
                odd.pixel(0, 0, (right + left) % 2 == 1 ? 15 : 0).pixel(5, 3, (right + left) % 2 == 1 ? 15 : 0).used(4, 0);
            }
        }
    }

    /** An empty PATH, one POINT, one EDGE and a PART without height have no pixel INSIDE; what was there stays. */
    private static void emptyPaths() {
        String[] none = {"", "2 2 moveto", "0 0 moveto 6 4 lineto", "0 2 moveto 6 2 lineto 3 2 lineto closepath", "2 2 moveto closepath closepath"};
        for (String path : none) {
            for (int way = 0; way < 2; way++) {
                Check c = new Check(6, 4).ok(ALL + "fill 0 setgray", "").ok(path + (way == 0 ? " fill" : " eofill"), "").used(4, 0);
                Check.same("page after " + path, 24, c.scribe.page());
            }
        }
    }

    /** "all pixels INSIDE the PATH get the LEVEL", 0 too; the others keep theirs. */
    private static void levelsPainted() {
        Check c = new Check(6, 4).ok(ALL + "fill 0.2 setgray 1 1 moveto 3 1 lineto 3 3 lineto 1 3 lineto fill", "");
        Check.same("picture", "ffffff/f33fff/f33fff/ffffff", picture(c.scribe));
        c.ok("0 setgray 2 1 moveto 4 1 lineto 4 2 lineto 2 2 lineto eofill", "");
        Check.same("picture", "ffffff/f3..ff/f33fff/ffffff", picture(c.scribe));
        Check.same("page", 22, c.scribe.page());
    }

    /** page: "How many pixels have a LEVEL above 0; they all become 0". */
    private static void pages() {
        Check c = new Check(6, 4);
        Check.same("page at first", 0, c.scribe.page());
        c.ok("0.0334 setgray 5 3 moveto 6 3 lineto 6 4 lineto 5 4 lineto fill", "").pixel(5, 3, 1);
        Check.same("page of one", 1, c.scribe.page());
        c.pixel(5, 3, 0);
        Check.same("page again", 0, c.scribe.page());
        c.ok("1 1 moveto", "").ok("0.5 setgray " + ALL + "fill", "");
        Check.same("page of all", 24, c.scribe.page());
        c.ok(ALL + "1 setgray", "").used(4, 4);
        Check.same("page with a PATH", 0, c.scribe.page());
        c.used(4, 4).ok("fill", "").pixel(0, 0, 15);
    }
}
