import java.lang.reflect.Constructor;
import java.lang.reflect.Field;
import java.lang.reflect.Method;
import java.lang.reflect.Modifier;
import java.util.TreeSet;

/** Promise 1, the constants, and the face itself. */
public final class NewObjectTest {
    public static void main(String[] args) {
        constants();
        face();
        firstAnswers();
        sizes();
        objectsAreApart();
        Check.finish();
    }

    private static void constants() {
        int[] got = {PageScribe.UNDERFLOW, PageScribe.OVERFLOW, PageScribe.TYPE, PageScribe.RANGE, PageScribe.UNDEFINED,
            PageScribe.DIVIDED, PageScribe.LIMIT, PageScribe.FULL, PageScribe.UNMATCHED, PageScribe.INVALID, PageScribe.NOLOOP,
            PageScribe.NESTED, PageScribe.NOPOINT, PageScribe.STOPPED, PageScribe.SYNTAX, PageScribe.TIRED};
        for (int i = 0; i < got.length; i++) {
            Check.same("constant " + i, i + 1, got[i]);
        }
    }

    private static void face() {
        TreeSet<String> seen = new TreeSet<>();
        TreeSet<String> hidden = new TreeSet<>();
        for (Method m : PageScribe.class.getDeclaredMethods()) {
            (Modifier.isPrivate(m.getModifiers()) ? hidden : seen).add(m.getName());
        }
        Check.same("methods", "[depth, fault, feed, kind, letter, number, page, pixel, real, run, steps, used, write]", seen.toString());
        hidden.retainAll(seen);
        Check.same("private methods named like public ones", "[]", hidden.toString());
        int fields = 0;
        for (Field f : PageScribe.class.getDeclaredFields()) {
            fields += Modifier.isPrivate(f.getModifiers()) ? 0 : 1;
        }
        Check.same("fields that are not private", 16, fields);
        Constructor<?>[] made = PageScribe.class.getDeclaredConstructors();
        Check.same("constructors", 1, made.length);
        Check.same("final class", true, Modifier.isFinal(PageScribe.class.getModifiers()));
    }

    private static void firstAnswers() {
        Check c = new Check();
        Check.same("depth", 0, c.scribe.depth());
        c.steps(0).fault(0);
        c.used(0, 0).used(1, 0).used(2, 1).used(3, 0).used(4, 0).used(5, 0).used(6, 0);
        Check.same("page", 0, c.scribe.page());
        c.ok("currentdict dup length fault", "dict0 0 0");
        c.ok("clear 0 0 moveto 9 0 lineto 9 9 lineto 0 9 lineto fill", "").pixel(4, 4, 15);
    }

    private static void sizes() {
        size(1, 1, 1, 1);
        size(24, 16, 24, 16);
        size(0, 0, 16, 12);
        size(25, 17, 16, 12);
        size(25, 16, 16, 16);
        size(24, 17, 24, 12);
        size(-1, 5, 16, 5);
        size(5, -1, 5, 12);
        size(Integer.MIN_VALUE, Integer.MAX_VALUE, 16, 12);
        size(23, 15, 23, 15);
    }

    private static void size(int columns, int rows, int dueColumns, int dueRows) {
        PageScribe scribe = new PageScribe(columns, rows);
        String what = "page of " + columns + " by " + rows;
        int[] columnsTried = {-1, 0, 1, dueColumns - 1, dueColumns, dueColumns + 1, columns, 15, 16, 23, 24, 25};
        int[] rowsTried = {-1, 0, 1, dueRows - 1, dueRows, dueRows + 1, rows, 11, 12, 15, 16, 17};
        for (int column : columnsTried) {
            for (int row : rowsTried) {
                boolean there = column >= 0 && column < dueColumns && row >= 0 && row < dueRows;
                Check.same(what + " at " + column + ", " + row, there ? 0 : -1, scribe.pixel(column, row));
            }
        }
    }

    private static void objectsAreApart() {
        Check a = new Check();
        Check b = new Check();
        a.ok("/a 5 def 7 [1 2] 3 dict begin save 0 0 moveto", "7 [2] save1");
        b.ok("", "").used(0, 0).used(1, 0).used(2, 1).used(3, 0).used(4, 0).used(5, 0);
        b.run("a", Check.UNDEFINED, "");
        a.fault(0);
    }
}
