import java.io.IOException;
import java.lang.reflect.Constructor;
import java.lang.reflect.Field;
import java.lang.reflect.Method;
import java.lang.reflect.Modifier;
import java.nio.file.Files;
import java.nio.file.Path;
import java.util.ArrayList;
import java.util.HashSet;
import java.util.LinkedHashMap;
import java.util.List;
import java.util.Map;
import java.util.Set;
import java.util.regex.Matcher;
import java.util.regex.Pattern;

/** The form that LANGUAGE.md asks of the program, as far as it can be seen from the class and from its file. */
public final class FormTest {
    private static final Set<Class<?>> NUMBERS =
        Set.of(int.class, long.class, short.class, byte.class, char.class, boolean.class, double.class, float.class);
    private static final Set<Class<?>> CONSTANTS = Set.of(int.class, long.class, boolean.class, char.class, String.class);
    private static final Set<Class<?>> ROWS_OF_CONSTANTS = Set.of(int[].class, long[].class, char[].class, byte[].class);
    private static final Set<Class<?>> ENUM_FIELDS = Set.of(int.class, long.class, boolean.class, String.class);

    private static final int MOST_CLASSES = 12, MOST_FIELDS = 20, MOST_PARAMETERS = 7, MOST_LINES = 60;

    /** A method's own lines, with the blanks that its class puts before it. */
    private static final Pattern METHOD =
        Pattern.compile("^((?:    ){1,2})((?:(?:public|private|static|final) )*)(?!public )[A-Za-z\\[\\]]+ ([A-Za-z]+)\\(.*\\{$");

    public static void main(String[] args) throws IOException {
        List<Class<?>> classes = classes();
        Check.same("some twelve classes", true, classes.size() <= MOST_CLASSES);
        for (Class<?> one : classes) {
            insideAndStatic(one);
            fields(one);
            parameters(one);
        }
        List<String> lines = Files.readAllLines(Path.of("src/main/java/PageScribe.java"));
        words(lines);
        methods(lines);
        Check.finish();
    }

    private static List<Class<?>> classes() {
        List<Class<?>> all = new ArrayList<>();
        all.add(PageScribe.class);
        for (Class<?> one : PageScribe.class.getDeclaredClasses()) {
            all.add(one);
        }
        return all;
    }

    /** Rule 1. */
    private static void insideAndStatic(Class<?> one) {
        if (one == PageScribe.class) {
            return;
        }
        int modifiers = one.getModifiers();
        Check.same(one + " is hidden", false, Modifier.isPublic(modifiers) || Modifier.isProtected(modifiers));
        Check.same(one + " is static", true, Modifier.isStatic(modifiers));
        Check.same(one + " has no class inside", 0, one.getDeclaredClasses().length);
    }

    /** Rules 2, 3, 5 and 11. */
    private static void fields(Class<?> one) {
        int own = 0;
        for (Field f : one.getDeclaredFields()) {
            if (f.isSynthetic()) {
                continue;
            }
            String what = one.getSimpleName() + "." + f.getName();
            if (Modifier.isStatic(f.getModifiers())) {
                Check.same(what + " is final", true, Modifier.isFinal(f.getModifiers()));
                Check.same(what + " may be static", true, mayBeStatic(f));
                continue;
            }
            own++;
            Check.same(what + " has a type of the language", true, one.isEnum() ? ENUM_FIELDS.contains(f.getType()) : mayBeHeld(f.getType()));
        }
        Check.same(one + " has some twenty fields", true, own <= MOST_FIELDS);
    }

    private static boolean mayBeStatic(Field f) {
        Class<?> type = f.getType();
        boolean kept = type.isArray() && type.getComponentType().isEnum();
        return CONSTANTS.contains(type) || ROWS_OF_CONSTANTS.contains(type) || f.isEnumConstant() || kept;
    }

    private static boolean mayBeHeld(Class<?> type) {
        Class<?> of = type.isArray() ? type.getComponentType() : type;
        return NUMBERS.contains(of) || of == String.class || of.getName().startsWith("PageScribe$");
    }

    /** Rule 11. */
    private static void parameters(Class<?> one) {
        for (Method m : one.getDeclaredMethods()) {
            Check.same(m + " takes few enough", true, m.getParameterCount() <= MOST_PARAMETERS);
        }
        for (Constructor<?> c : one.getDeclaredConstructors()) {
            // an enum's has two more, its constant's name and place
            Check.same(c + " takes few enough", true, c.getParameterCount() <= MOST_PARAMETERS);
        }
    }

    /** Rules 2, 4, 6 and 13: nothing of what is not listed. */
    private static void words(List<String> lines) {
        Pattern not = Pattern.compile("\\b(import|package|try|catch|finally|synchronized|assert|var|System\\.(?!arraycopy)|Object"
            + "|Double|Float|Boolean|Character|Thread|Runnable)\\b|->|::|Math\\.(?!max\\(|min\\(|floorMod\\()");
        for (int i = 0; i < lines.size(); i++) {
            String code = codeOf(lines.get(i));
            Check.same("line " + (i + 1) + " keeps to the language: " + code, false, not.matcher(code).find());
        }
    }

    /** The line without what it says to a reader alone. */
    private static String codeOf(String line) {
        String start = line.trim();
        boolean said = start.startsWith("*") || start.startsWith("/*") || start.startsWith("//");
        return said ? "" : line.replaceAll("\"[^\"]*\"", "\"\"").replaceAll("//.*", "");
    }

    /** Rule 11 on the length of a method, rule 12 on what it makes, and rule 8: what calls itself, through others too, is private. */
    private static void methods(List<String> lines) {
        Map<String, String> bodies = new LinkedHashMap<>();
        Set<String> open = new HashSet<>();
        String inside = "";
        for (int i = 0; i < lines.size(); i++) {
            Matcher start = METHOD.matcher(lines.get(i));
            if (lines.get(i).matches("    private static (final )?class .*")) {
                inside = lines.get(i).replaceAll(".*class (\\w+).*", "$1");
            }
            if (!start.matches()) {
                continue;
            }
            String name = inside + "." + start.group(3);
            StringBuilder body = new StringBuilder();
            int from = i;
            while (i + 1 < lines.size() && !lines.get(i + 1).equals(start.group(1) + "}")) {
                i++;
                body.append(codeOf(lines.get(i))).append('\n');
            }
            Check.same(name + " is short", true, i - from <= MOST_LINES);
            Check.same(name + " makes nothing", false, body.toString().replace("throw new", "throw").matches("(?s).*\\bnew\\b.*"));
            bodies.merge(name, body.toString(), String::concat);
            if (!start.group(2).contains("private")) {
                open.add(name);
            }
        }
        Check.same("methods were found", true, bodies.size() > 100);
        for (String name : bodies.keySet()) {
            boolean again = reached(name, bodies).contains(name);
            Check.same(name + " calls itself, and others may call it", false, again && open.contains(name));
        }
        Check.same("doValue calls itself", true, reached("Engine.doValue", bodies).contains("Engine.doValue"));
    }

    /** The methods of the same class that a call of this one may come to. */
    private static Set<String> reached(String name, Map<String, String> bodies) {
        String inside = name.substring(0, name.indexOf('.') + 1);
        Set<String> all = new HashSet<>();
        List<String> next = new ArrayList<>(List.of(name));
        while (!next.isEmpty()) {
            Matcher calls = Pattern.compile("(?<![.\\w])([a-z]\\w*)\\(").matcher(bodies.get(next.remove(next.size() - 1)));
            while (calls.find()) {
                String called = inside + calls.group(1);
                if (bodies.containsKey(called) && all.add(called)) {
                    next.add(called);
                }
            }
        }
        return all;
    }
}
