/** Promises 2 and 12's characters of the text. */
public final class WriteTest {
    public static void main(String[] args) {
        order();
        bytes();
        room();
        refusedWhole();
        Check.finish();
    }

    private static void order() {
        Check c = new Check();
        Check.same("zeros left out", true, c.scribe.write(0x3100003200330000L));
        c.used(6, 3);
        Check.same("nothing", true, c.scribe.write(0L));
        c.used(6, 3).ok("4", "1234").used(6, 0);
        Check.same("eight", true, c.scribe.write(Check.packed("5 6 7 8 ")));
        c.used(6, 8).ok("", "1234 5 6 7 8");
    }

    private static void bytes() {
        for (int b = 0; b < 256; b++) {
            boolean due = b == 0 || b >= 32 && b <= 126;
            for (int shift = 0; shift < 64; shift += 8) {
                Check c = new Check();
                Check.same("byte " + b + " at " + shift, due, c.scribe.write((long) b << shift));
                c.used(6, due && b != 0 ? 1 : 0);
            }
        }
        Check.same("-1", false, new PageScribe(1, 1).write(-1L));
    }

    private static void room() {
        Check c = new Check();
        c.text(" ".repeat(119)).used(6, 119);
        Check.same("two more", false, c.scribe.write(Check.packed("12")));
        c.used(6, 119);
        Check.same("one more", true, c.scribe.write(Check.packed("1")));
        c.used(6, 120);
        Check.same("one too many", false, c.scribe.write(Check.packed("2")));
        Check.same("none more", true, c.scribe.write(0L));
        c.used(6, 120);
        c.ok("", "1").used(6, 0);
        c.text(" ".repeat(112)).text("12345678").used(6, 120).ok("", "1 12345678");
    }

    private static void refusedWhole() {
        Check c = new Check();
        c.text("1 ");
        Check.same("bad at the end", false, c.scribe.write(0x323334353637381FL));
        Check.same("bad at the start", false, c.scribe.write(0x7F32333435363738L));
        Check.same("bad in the middle", false, c.scribe.write(0x3233343580363738L));
        c.used(6, 2).ok("9", "1 9");
    }
}
