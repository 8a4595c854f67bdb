/** One PageScribe with the questions that the tests put to it; counts what is wrong over all of them. */
final class Check {
    static final int UNDERFLOW = 1, OVERFLOW = 2, TYPE = 3, RANGE = 4, UNDEFINED = 5, DIVIDED = 6, LIMIT = 7, FULL = 8;
    static final int UNMATCHED = 9, INVALID = 10, NOLOOP = 11, NESTED = 12, NOPOINT = 13, STOPPED = 14, SYNTAX = 15, TIRED = 16;
    static final int MOST_FUEL = 500;

    private static int wrong = 0;
    private static int asked = 0;

    final PageScribe scribe;

    Check() {
        this(16, 12);
    }

    Check(int columns, int rows) {
        scribe = new PageScribe(columns, rows);
    }

    /** Ends the test's program, with exit code 1 if an answer was wrong. */
    static void finish() {
        System.out.println(asked + " answers looked at, " + wrong + " wrong");
        if (wrong > 0) {
            System.exit(1);
        }
    }

    static void same(String what, Object due, Object got) {
        asked++;
        if (!due.equals(got)) {
            wrong++;
            System.out.println(what + ": due is " + due + ", answered " + got);
        }
    }

    /** The bytes of up to eight characters as write takes them. */
    static long packed(String part) {
        long eight = 0;
        for (int i = 0; i < part.length(); i++) {
            eight = eight << 8 | part.charAt(i);
        }
        return eight;
    }

    static boolean writeAll(PageScribe scribe, String text) {
        boolean all = true;
        for (int i = 0; i < text.length(); i += 8) {
            all &= scribe.write(packed(text.substring(i, Math.min(text.length(), i + 8))));
        }
        return all;
    }

    Check text(String text) {
        same("write \"" + text + "\"", true, writeAll(scribe, text));
        return this;
    }

    /** Runs the text with most fuel; the failure and the STACK, bottom first, are due after it. */
    Check run(String text, int failure, String stack) {
        return run(MOST_FUEL, text, failure, stack);
    }

    Check run(int fuel, String text, int failure, String stack) {
        text(text);
        same("run of \"" + text + "\"", failure, scribe.run(fuel));
        same("STACK after \"" + text + "\"", stack, stackOf(scribe));
        return this;
    }

    /** Runs a text that does not fail. */
    Check ok(String text, String stack) {
        return run(text, 0, stack);
    }

    Check steps(int due) {
        same("steps", due, scribe.steps());
        return this;
    }

    Check fault(int due) {
        same("fault", due, scribe.fault());
        return this;
    }

    Check used(int which, int due) {
        same("used(" + which + ")", due, scribe.used(which));
        return this;
    }

    Check pixel(int column, int row, int due) {
        same("pixel(" + column + ", " + row + ")", due, scribe.pixel(column, row));
        return this;
    }

    /** A new object on which the text does not fail and leaves that STACK. */
    static Check fresh(String text, String stack) {
        return new Check().ok(text, stack);
    }

    /** A new object on which the text fails and leaves that STACK. */
    static Check fails(String text, int failure, String stack) {
        return new Check().run(text, failure, stack).fault(failure);
    }

    static String stackOf(PageScribe scribe) {
        StringBuilder told = new StringBuilder();
        for (int k = scribe.depth() - 1; k >= 0; k--) {
            told.append(told.length() == 0 ? "" : " ").append(valueOf(scribe, k));
        }
        return told.toString();
    }

    static String valueOf(PageScribe scribe, int k) {
        int kind = scribe.kind(k);
        switch (kind) {
            case 0:
                return "" + scribe.number(k);
            case 1:
                return "" + scribe.real(k);
            case 2:
                return scribe.number(k) == 1 ? "true" : scribe.number(k) == 0 ? "false" : "no boolean";
            case 3:
                return "/" + nameOf(scribe, k);
            case 11:
                return nameOf(scribe, k);
            case 4:
                return scribe.number(k) == 0 ? "mark" : "no mark";
            case 5:
                return "[" + scribe.number(k) + "]";
            case 13:
                return "{" + scribe.number(k) + "}";
            case 6:
                return "dict" + scribe.number(k);
            case 7:
                return "save" + scribe.number(k);
            default:
                return "kind" + kind;
        }
    }

    private static String nameOf(PageScribe scribe, int k) {
        StringBuilder name = new StringBuilder();
        for (int i = 0; i < scribe.number(k); i++) {
            name.append((char) scribe.letter(k, i));
        }
        return name.toString();
    }

    /** The simple name of what a call throws, or "nothing". */
    static String thrownBy(Runnable call) {
        try {
            call.run();
        } catch (RuntimeException e) {
            return e.getClass().getSimpleName();
        }
        return "nothing";
    }

    /** A text of so many of these, with blanks between. */
    static String times(int n, String part) {
        return (part + " ").repeat(n).trim();
    }
}
