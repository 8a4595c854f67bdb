/** Promise 3's PAGE, GRAY and PATH, promises 13 and 14. */
public final class PaintTest {
    private static final String SQUARE = "1 1 moveto 5 1 lineto 5 5 lineto 1 5 lineto ";

    public static void main(String[] args) {
        pixels();
        square();
        levels();
        twoWays();
        edges();
        parts();
        path();
        pathFailures();
        Check.finish();
    }

    /** The pixels above 0, row by row, as letters: . for 0, else the LEVEL in hexadecimal digits. */
    private static String picture(PageScribe scribe, int columns, int rows) {
        StringBuilder told = new StringBuilder();
        for (int row = 0; row < rows; row++) {
            told.append(row == 0 ? "" : "/");
            for (int column = 0; column < columns; column++) {
                int level = scribe.pixel(column, row);
                told.append(level == 0 ? '.' : Character.forDigit(level, 16));
            }
        }
        return told.toString();
    }

    private static void shows(String text, String due) {
        Check c = new Check(6, 6);
        c.ok(text, "");
        Check.same(text, due, picture(c.scribe, 6, 6));
        c.used(4, 0);
    }

    private static void pixels() {
        Check c = new Check(6, 4);
        c.ok("0 0 moveto 6 0 lineto 6 4 lineto 0 4 lineto fill", "");
        c.pixel(0, 0, 15).pixel(5, 3, 15).pixel(5, 0, 15).pixel(0, 3, 15);
        c.pixel(6, 0, -1).pixel(0, 4, -1).pixel(-1, 0, -1).pixel(0, -1, -1).pixel(-1, 1, -1).pixel(6, -1, -1);
        c.pixel(Integer.MAX_VALUE, Integer.MAX_VALUE, -1).pixel(Integer.MIN_VALUE, 0, -1);
        Check.same("page", 24, c.scribe.page());
        Check.same("page again", 0, c.scribe.page());
        c.pixel(5, 3, 0);
    }

    private static void square() {
        String filled = "....../.ffff./.ffff./.ffff./.ffff./......";
        shows(SQUARE + "fill", filled);
        shows(SQUARE + "eofill", filled);
        shows(SQUARE + "closepath fill", filled);
        shows("1 1 moveto 1 5 lineto 5 5 lineto 5 1 lineto fill", filled);
        shows("1.5 1.5 moveto 4.5 1.5 lineto 4.5 4.5 lineto 1.5 4.5 lineto fill", "....../.fff../.fff../.fff../....../......");
        shows("1.4 1.4 moveto 4.4 1.4 lineto 4.4 4.4 lineto 1.4 4.4 lineto fill", "....../.fff../.fff../.fff../....../......");
        shows("0 0 moveto 6 6 lineto 0 6 lineto fill", "....../f...../ff..../fff.../ffff../fffff.");
        shows("-9 -9 moveto 99 -9 lineto 99 99 lineto -9 99 lineto fill", "ffffff/ffffff/ffffff/ffffff/ffffff/ffffff");
    }

    private static void levels() {
        String[] grays = {"0", "0.0", "0.03", "0.0334", "0.1", "0.5", "0.9", "0.9666", "0.9667", "1", "1.0"};
        for (String gray : grays) {
            float g = (float) Double.parseDouble(gray);
            Check c = new Check();
            c.ok(gray + " setgray " + SQUARE + "fill", "").pixel(2, 2, (int) (15f * g + 0.5f));
        }
        Check c = new Check();
        c.ok(SQUARE + "fill 0 setgray 2 2 moveto 3 2 lineto 3 3 lineto 2 3 lineto fill", "").pixel(2, 2, 0).pixel(3, 3, 15);
        Check.same("page without the one painted 0", 15, c.scribe.page());
        c.ok("0.05 setgray " + SQUARE + "fill", "").pixel(2, 2, 1);
        Check.same("page of LEVEL 1", 16, c.scribe.page());
        Check.fails("1.0001 setgray", Check.RANGE, "1.0001");
        Check.fails("-0.0001 setgray", Check.RANGE, "-1.0E-4");
        Check.fails("2 setgray", Check.RANGE, "2");
        Check.fails("-1 setgray", Check.RANGE, "-1");
        Check kept = new Check();
        kept.run("0.5 setgray 2 setgray", Check.RANGE, "2").ok("pop " + SQUARE + "fill", "").pixel(2, 2, 8);
    }

    private static void twoWays() {
        String outer = "0 0 moveto 6 0 lineto 6 6 lineto 0 6 lineto ";
        String same = "2 2 moveto 4 2 lineto 4 4 lineto 2 4 lineto ";
        String other = "2 2 moveto 2 4 lineto 4 4 lineto 4 2 lineto ";
        String whole = "ffffff/ffffff/ffffff/ffffff/ffffff/ffffff";
        String holed = "ffffff/ffffff/ff..ff/ff..ff/ffffff/ffffff";
        shows(outer + same + "fill", whole);
        shows(outer + same + "eofill", holed);
        shows(outer + other + "fill", holed);
        shows(outer + other + "eofill", holed);
        shows(same + same + "fill", "....../....../..ff../..ff../....../......");
        shows(same + same + "eofill", "....../....../....../....../....../......");
        shows(same + other + "fill", "....../....../....../....../....../......");
        shows("3 0 moveto 5 6 lineto 0 2 lineto 6 2 lineto 1 6 lineto fill", pentagram(false));
        shows("3 0 moveto 5 6 lineto 0 2 lineto 6 2 lineto 1 6 lineto eofill", pentagram(true));
    }

    private static String pentagram(boolean byOdd) {
        return pictureOf(new int[][] {{3, 0}, {5, 6}, {0, 2}, {6, 2}, {1, 6}}, byOdd);
    }

    private static String pictureOf(int[][] p, boolean byOdd) {
        StringBuilder told = new StringBuilder();
        for (int row = 0; row < 6; row++) {
            told.append(row == 0 ? "" : "/");
            for (int column = 0; column < 6; column++) {
                int turns = 0;
                for (int i = 0; i < p.length; i++) {
                    turns += way(p[i], p[(i + 1) % p.length], column + 0.5, row + 0.5);
                }
                told.append((byOdd ? turns % 2 != 0 : turns != 0) ? 'f' : '.');
            }
        }
        return told.toString();
    }

    private static int way(int[] a, int[] b, double cx, double cy) {
        double s = (b[0] - a[0]) * (cy - a[1]) - (cx - a[0]) * (b[1] - a[1]);
        return a[1] <= cy && cy < b[1] && s > 0 ? 1 : b[1] <= cy && cy < a[1] && s < 0 ? -1 : 0;
    }

    private static void edges() {
        shows("1 0.5 moveto 5 0.5 lineto 5 2.5 lineto 1 2.5 lineto fill", ".ffff./.ffff./....../....../....../......");
        shows("0.5 1 moveto 2.5 1 lineto 2.5 3 lineto 0.5 3 lineto fill", "....../ff..../ff..../....../....../......");
        shows("0.4999 0 moveto 0.5001 0 lineto 0.5001 1 lineto 0.4999 1 lineto fill", "f...../....../....../....../....../......");
        shows("0.5 0 moveto 0.5001 0 lineto 0.5001 1 lineto 0.5 1 lineto fill", "f...../....../....../....../....../......");
        shows("0.4999 0 moveto 0.5 0 lineto 0.5 1 lineto 0.4999 1 lineto fill", "....../....../....../....../....../......");
        shows("2 2 moveto fill", "....../....../....../....../....../......");
        shows("2 2 moveto 4 4 lineto fill", "....../....../....../....../....../......");
        shows("fill", "....../....../....../....../....../......");
        shows("eofill", "....../....../....../....../....../......");
    }

    private static void parts() {
        shows("0 0 moveto 1 0 lineto 1 1 lineto 0 1 lineto 4 4 moveto 6 4 lineto 6 6 lineto 4 6 lineto fill",
            "f...../....../....../....../....ff/....ff");
        shows("5 5 moveto 0 0 moveto 2 0 lineto 2 2 lineto 0 2 lineto closepath 3 3 moveto fill", "ff..../ff..../....../....../....../......");
        shows("0 0 moveto 2 0 lineto 2 2 lineto closepath 0 2 lineto fill", "ff..../.f..../....../....../....../......");
        shows("0 0 moveto 2 0 lineto 2 2 lineto closepath 4 4 lineto 4 2 lineto fill", onePart());
    }

    /** After closepath the PART goes on from its first POINT, and its last EDGE leads back there. */
    private static String onePart() {
        int[][] p = {{0, 0}, {2, 0}, {2, 2}, {0, 0}, {4, 4}, {4, 2}};
        return pictureOf(p, false);
    }

    private static void path() {
        Check c = new Check();
        c.ok("1 1 moveto", "").used(4, 1).ok("2 2 lineto", "").used(4, 2).ok("closepath", "").used(4, 3);
        c.ok("5 5 moveto", "").used(4, 4).ok("newpath", "").used(4, 0).ok("newpath", "").used(4, 0);
        c.ok(SQUARE, "").used(4, 4).ok("fill", "").used(4, 0);
        c.ok(SQUARE, "").ok("eofill", "").used(4, 0);
        c.run("lineto", Check.UNDERFLOW, "").run("1 1 lineto", Check.NOPOINT, "1 1");
    }

    private static void pathFailures() {
        Check.fails("closepath", Check.NOPOINT, "").used(4, 0);
        Check.fails("1 2 lineto", Check.NOPOINT, "1 2").used(4, 0);
        Check.fails("1000001 2 lineto", Check.RANGE, "1000001 2");
        Check.fails("1000000.5 2 moveto", Check.RANGE, "1000000.5 2");
        Check.fails("2 1000000.5 moveto", Check.RANGE, "2 1000000.5");
        Check.fails("-1000001 2 moveto", Check.RANGE, "-1000001 2");
        Check.fails("2 -1000001 moveto", Check.RANGE, "2 -1000001");
        Check.fresh("1000000 -1000000 moveto -1000000 1000000.0 lineto", "").used(4, 2);
        Check c = new Check();
        c.ok("30 {1 2 moveto} repeat", "").used(4, 30);
        c.run("1 2 moveto", Check.LIMIT, "1 2").used(4, 30);
        c.run("clear 1 2 lineto", Check.LIMIT, "1 2");
        c.run("clear closepath", Check.LIMIT, "");
        c.run("1000001 2 lineto", Check.RANGE, "1000001 2").used(4, 30);
        c.ok("clear newpath 1 2 moveto 29 {closepath} repeat", "").used(4, 30);
        c.run("closepath", Check.LIMIT, "");
        c.run("true 2 moveto", Check.TYPE, "true 2");
    }
}
