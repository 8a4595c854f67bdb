import java.io.IOException;
import java.nio.file.Files;
import java.nio.file.Path;
import java.util.ArrayList;
import java.util.List;
import java.util.regex.Matcher;
import java.util.regex.Pattern;

/** The calls that README.md shows, one by one: each line is done as it stands there, and has to answer what it says. */
public final class ReadmeTest {
    private static final Pattern CALL = Pattern.compile("scribe\\.(\\w+)\\(([^)]*)\\); +// (throws \\w+|-?\\w+).*");
    private static final Pattern WRITE_ALL = Pattern.compile("writeAll\\(scribe, \"([^\"]*)\"\\); +// (\\w+)");

    public static void main(String[] args) throws IOException {
        PageScribe scribe = new PageScribe(16, 12);
        List<String> done = new ArrayList<>();
        for (String line : Files.readAllLines(Path.of("README.md"))) {
            Matcher call = CALL.matcher(line);
            Matcher writeAll = WRITE_ALL.matcher(line);
            if (call.matches()) {
                Check.same(line, call.group(3), answer(scribe, call.group(1), call.group(2)));
                done.add(call.group(1));
            } else if (writeAll.matches()) {
                Check.same(line, writeAll.group(2), "" + Check.writeAll(scribe, writeAll.group(1)));
                done.add("writeAll");
            }
        }
        Check.same("calls shown", "[write, used, run, steps, depth, kind, number, write, run, fault, depth, number, run,"
            + " writeAll, run, pixel, pixel, pixel, page]", done.toString());
        Check.finish();
    }

    private static String answer(PageScribe scribe, String name, String given) {
        try {
            return "" + call(scribe, name, given);
        } catch (RuntimeException e) {
            return "throws " + e.getClass().getSimpleName();
        }
    }

    private static Object call(PageScribe scribe, String name, String given) {
        switch (name) {
            case "write":
                return scribe.write(Long.parseUnsignedLong(given.substring(2, given.length() - 1), 16));
            case "used":
                return scribe.used(Integer.parseInt(given));
            case "run":
                return scribe.run(Integer.parseInt(given));
            case "steps":
                return scribe.steps();
            case "fault":
                return scribe.fault();
            case "depth":
                return scribe.depth();
            case "kind":
                return scribe.kind(Integer.parseInt(given));
            case "number":
                return scribe.number(Integer.parseInt(given));
            case "pixel":
                String[] place = given.split(", ");
                return scribe.pixel(Integer.parseInt(place[0]), Integer.parseInt(place[1]));
            case "page":
                return scribe.page();
            default:
                return "not known here: " + name;
        }
    }
}
