/**
 * Two objects that were asked alike, until one of them is asked for more and refuses: what both answer, and
 * what both do afterwards, must still be the same then.
 */
final class Twins {
    /** What lies in cells, DICTS, GRAY, the PATH and the numbers still to be given shows only in what is done next. */
    private static final String[] NEXT = {
        "{aload} stopped", "clear {/a load} stopped {/b load} stopped currentdict length", "clear fill",
        "0 0 moveto 3 0 lineto 3 2 lineto 0 2 lineto fill", "clear 1 array 0 get 1 dict", "clear save", "clear end",
    };

    private final String before;
    private final Check asked = new Check(3, 2);
    private final Check left = new Check(3, 2);

    private Twins(String... texts) {
        String all = "";
        for (String text : texts) {
            all = all + text + " | ";
            asked.text(text);
            left.text(text);
            Check.same("run of \"" + text + "\"", 0, asked.scribe.run(Check.MOST_FUEL));
            left.scribe.run(Check.MOST_FUEL);
        }
        before = all;
    }

    /** After these texts, none of which fails, the operator fails so and has changed nothing. */
    static void refuses(String operator, int failure, String... texts) {
        Twins twins = new Twins(texts);
        String what = twins.before + operator;
        twins.asked.text(operator);
        Check.same("failure of " + what, failure, twins.asked.scribe.run(Check.MOST_FUEL));
        Check.same("steps of " + what, 1, twins.asked.scribe.steps());
        Check.same("fault after " + what, failure, twins.asked.scribe.fault());
        twins.sameNow(what);
        for (String next : NEXT) {
            twins.asked.text(next);
            twins.left.text(next);
            int due = twins.left.scribe.run(Check.MOST_FUEL);
            Check.same("failure of " + what + " | " + next, due, twins.asked.scribe.run(Check.MOST_FUEL));
            twins.sameNow(what + " | " + next);
        }
    }

    /** After these texts the operator does not fail, and that many VALUES are on the STACK. */
    static void takes(String operator, int depth, String... texts) {
        Twins twins = new Twins(texts);
        String what = twins.before + operator;
        twins.asked.text(operator);
        Check.same("failure of " + what, 0, twins.asked.scribe.run(Check.MOST_FUEL));
        Check.same("depth after " + what, depth, twins.asked.scribe.depth());
    }

    private void sameNow(String what) {
        Check.same("all answers after " + what, answersOf(left.scribe), answersOf(asked.scribe));
    }

    private static String answersOf(PageScribe scribe) {
        StringBuilder told = new StringBuilder(Check.stackOf(scribe));
        for (int which = 0; which <= 6; which++) {
            told.append(which == 0 ? "; used " : ", ").append(scribe.used(which));
        }
        told.append("; page");
        for (int row = 0; row < 2; row++) {
            for (int column = 0; column < 3; column++) {
                told.append(' ').append(scribe.pixel(column, row));
            }
        }
        return told.toString();
    }
}
