import java.util.ArrayList;
import java.util.Arrays;
import java.util.HashMap;
import java.util.HashSet;
import java.util.List;
import java.util.Map;

/**
 * The document once more, written with objects and exceptions and in another order than PageScribe, so that
 * ModelTest can put both side by side. What it makes is of no matter here.
 */
final class Model {
    /** A VALUE; what an ARRAY, DICT or SAVE is stands in body. */
    record Value(int kind, boolean live, Object body) {
        Value withLive(boolean flag) {
            return kind == 3 || kind == 5 ? new Value(kind, flag, body) : this;
        }

        boolean runs() {
            return kind == 5 && live;
        }

        int asInt() {
            return (Integer) body;
        }

        double asDouble() {
            return kind == 0 ? (double) asInt() : (Double) body;
        }
    }

    record Span(int first, int length) {
        int end() {
            return length == 0 ? 0 : first + length;
        }
    }

    record Point(double x, double y) {
    }

    static final class Dict {
        final int number;
        final int room;
        Map<String, Value> entries = new HashMap<>();

        Dict(int number, int room) {
            this.number = number;
            this.room = room;
        }
    }

    static final class Save {
        final int number;
        final List<Value> cells;
        final Map<Dict, Map<String, Value>> dicts = new HashMap<>();

        Save(int number, List<Value> cells, List<Dict> there) {
            this.number = number;
            this.cells = new ArrayList<>(cells);
            for (Dict d : there) {
                dicts.put(d, new HashMap<>(d.entries));
            }
        }
    }

    static final class Failure extends RuntimeException {
        private static final long serialVersionUID = 1L;
        final int number;

        Failure(int number) {
            super(null, null, false, false);
            this.number = number;
        }
    }

    static final class Exit extends RuntimeException {
        private static final long serialVersionUID = 1L;

        Exit() {
            super(null, null, false, false);
        }
    }

    /** The operators and what they take: x any, i INT, n number, b BOOLEAN, w NAME, a ARRAY, p LIVE ARRAY, d DICT, s SAVE. */
    static final String TABLE = "pop x,exch xx,dup x,copy i,index i,roll ii,clear,count,mark,[,cleartomark,],add nn,sub nn,mul nn,"
        + "div nn,idiv ii,mod ii,neg n,floor n,round n,cvi n,cvr n,true,false,eq xx,ne xx,gt nn,ge nn,lt nn,le nn,and bb ii,"
        + "or bb ii,not b i,bitshift ii,cvx x,cvlit x,xcheck x,kind x,array i,length a d,get ai dw,put aix dwx,getinterval aii,"
        + "aload a,dict i,begin d,end,def wx,load w,known dw,currentdict,exec x,if bp,ifelse bpp,for iiip,repeat ip,loop p,"
        + "forall ap,exit,stop,stopped x,fault,save,restore s,setgray n,newpath,moveto nn,lineto nn,closepath,fill,eofill";
    static final Map<String, String[]> OPERATORS = new HashMap<>();

    static {
        for (String row : TABLE.split(",")) {
            String[] parts = row.split(" ");
            OPERATORS.put(parts[0], parts.length == 1 ? new String[] {""} : Arrays.copyOfRange(parts, 1, parts.length));
        }
    }

    /** So many VALUES from the top are told letter by letter. */
    static final int SPELLED = 3;

    final int columns;
    final int rows;
    final int[][] levels;
    String text = "";
    final List<Value> stack = new ArrayList<>();
    final List<Value> cells = new ArrayList<>();
    final List<Dict> dicts = new ArrayList<>();
    final List<Dict> scopes = new ArrayList<>();
    final List<Save> open = new ArrayList<>();
    final HashSet<String> known = new HashSet<>();
    final List<List<Point>> path = new ArrayList<>();
    final List<Span> spansUnderWay = new ArrayList<>();
    float gray = 1;
    int saves = 0;
    int steps = 0;
    int fuel = 0;
    int fault = 0;
    int underWay = 0;
    int at = 0;
    boolean inLoop = false;

    Model(int columns, int rows) {
        this.columns = columns < 1 || columns > 24 ? 16 : columns;
        this.rows = rows < 1 || rows > 16 ? 12 : rows;
        levels = new int[this.columns][this.rows];
        dicts.add(new Dict(0, 20));
        scopes.add(dicts.get(0));
    }

    int run(int given) {
        fuel = given;
        steps = 0;
        at = 0;
        underWay = 0;
        inLoop = false;
        spansUnderWay.clear();
        int end = 0;
        try {
            for (Value v = next(false); v != null; v = next(false)) {
                perform(v);
            }
        } catch (Failure f) {
            end = f.number;
            fault = end;
        }
        text = "";
        return end;
    }

    // ---- the text

    private char look() {
        return at < text.length() ? text.charAt(at) : '\0';
    }

    private Value next(boolean inside) {
        while (look() == ' ') {
            at++;
        }
        char c = look();
        if (c == '\0') {
            if (inside) {
                throw new Failure(15);
            }
            return null;
        }
        if (c == '{') {
            return procedure(1);
        }
        return plain();
    }

    private Value procedure(int depth) {
        if (depth > 4) {
            throw new Failure(12);
        }
        at++;
        List<Value> body = new ArrayList<>();
        while (true) {
            while (look() == ' ') {
                at++;
            }
            if (look() == '}') {
                at++;
                return new Value(5, true, newArray(body));
            }
            body.add(look() == '{' ? procedure(depth + 1) : look() == '\0' ? next(true) : plain());
        }
    }

    private Value plain() {
        String rest = text.substring(at);
        java.util.regex.Matcher number = java.util.regex.Pattern.compile("(-?)([0-9]+)(\\.([0-9]+))?").matcher(rest);
        if (number.lookingAt()) {
            return number(number);
        }
        if (rest.startsWith("[") || rest.startsWith("]")) {
            at++;
            return new Value(3, true, rest.substring(0, 1));
        }
        java.util.regex.Matcher word = java.util.regex.Pattern.compile("(/?)([a-z]+)").matcher(rest);
        if (!word.lookingAt()) {
            throw new Failure(15);
        }
        String letters = word.group(2);
        if (!OPERATORS.containsKey(letters)) {
            if (letters.length() > 8) {
                throw new Failure(15);
            }
            if (!known.contains(letters) && known.size() == 40) {
                throw new Failure(7);
            }
            known.add(letters);
        }
        at += word.end();
        return new Value(3, word.group(1).isEmpty(), letters);
    }

    private Value number(java.util.regex.Matcher m) {
        String decimals = m.group(4);
        if (m.group(2).length() > 9 || decimals != null && decimals.length() > 4) {
            throw new Failure(15);
        }
        at += m.end();
        boolean minus = !m.group(1).isEmpty();
        int whole = Integer.parseInt(m.group(2));
        if (decimals == null) {
            return new Value(0, false, minus ? -whole : whole);
        }
        double[] scales = {10.0, 100.0, 1000.0, 10000.0};
        double v = (double) whole + (double) Integer.parseInt(decimals) / scales[decimals.length() - 1];
        return new Value(1, false, minus ? 0.0 - v : v);
    }

    private Span newArray(List<Value> values) {
        if (cells.size() + values.size() > 160) {
            throw new Failure(7);
        }
        Span span = new Span(cells.size(), values.size());
        cells.addAll(values);
        return span;
    }

    // ---- doing

    private void push(Value v) {
        if (stack.size() >= 40) {
            throw new Failure(2);
        }
        stack.add(v);
    }

    private void push(int kind, Object body) {
        push(new Value(kind, false, body));
    }

    private void step() {
        if (steps == fuel) {
            throw new Failure(16);
        }
        steps++;
    }

    private void perform(Value v) {
        step();
        if (v.kind != 3 || !v.live) {
            push(v);
            return;
        }
        Value told = lookUp((String) v.body);
        if (told == null) {
            operator((String) v.body);
        } else if (told.runs()) {
            run((Span) told.body);
        } else if (told.kind == 3 && told.live) {
            performUnderWay(told);
        } else {
            push(told);
        }
    }

    private Value lookUp(String name) {
        for (int i = scopes.size() - 1; i >= 0; i--) {
            Value v = scopes.get(i).entries.get(name);
            if (v != null) {
                return v;
            }
        }
        return null;
    }

    private void performUnderWay(Value v) {
        if (underWay == 8) {
            throw new Failure(12);
        }
        underWay++;
        try {
            perform(v);
        } finally {
            underWay--;
        }
    }

    private void run(Span span) {
        if (underWay == 8) {
            throw new Failure(12);
        }
        underWay++;
        spansUnderWay.add(span);
        try {
            for (int i = 0; i < span.length; i++) {
                perform(cells.get(span.first + i));
            }
        } finally {
            underWay--;
            spansUnderWay.remove(spansUnderWay.size() - 1);
        }
    }

    private void execute(Value v) {
        if (v.runs()) {
            run((Span) v.body);
        } else if (v.kind == 3) {
            performUnderWay(v);
        } else {
            perform(v);
        }
    }

    private static boolean fits(Value v, char sort) {
        switch (sort) {
            case 'i': return v.kind == 0;
            case 'n': return v.kind < 2;
            case 'b': return v.kind == 2;
            case 'w': return v.kind == 3;
            case 'a': return v.kind == 5;
            case 'p': return v.runs();
            case 'd': return v.kind == 6;
            case 's': return v.kind == 7;
            default: return true;
        }
    }

    /** Whether the STACK has what that operator takes. */
    boolean couldDo(String word) {
        for (String way : OPERATORS.get(word)) {
            int n = way.length();
            boolean all = stack.size() >= n;
            for (int i = 0; i < n && all; i++) {
                all = fits(stack.get(stack.size() - n + i), way.charAt(i));
            }
            if (all) {
                return true;
            }
        }
        return false;
    }

    private void operator(String word) {
        String[] ways = OPERATORS.get(word);
        if (ways == null) {
            throw new Failure(5);
        }
        int n = ways[0].length();
        if (stack.size() < n) {
            throw new Failure(1);
        }
        List<Value> before = new ArrayList<>(stack);
        Value[] v = stack.subList(stack.size() - n, stack.size()).toArray(new Value[0]);
        if (!couldDo(word)) {
            throw new Failure(3);
        }
        for (int i = 0; i < n; i++) {
            stack.remove(stack.size() - 1);
        }
        if (runs(word, v)) {
            return;
        }
        try {
            act(word, v);
        } catch (Failure f) {
            stack.clear();
            stack.addAll(before);
            throw f;
        }
    }

    // ---- operators that run VALUES

    private boolean runs(String word, Value[] v) {
        switch (word) {
            case "exec":
                execute(v[0]);
                return true;
            case "if":
                if ((Boolean) v[0].body) {
                    run((Span) v[1].body);
                }
                return true;
            case "ifelse":
                run((Span) ((Boolean) v[0].body ? v[1] : v[2]).body);
                return true;
            case "for":
                loop(() -> {
                    int by = v[1].asInt();
                    for (long at = v[0].asInt(); by >= 0 ? at <= v[2].asInt() : at >= v[2].asInt(); at += by) {
                        turn(new Value(0, false, (int) at), v[3]);
                    }
                });
                return true;
            case "repeat":
                if (v[0].asInt() < 0) {
                    return false;
                }
                loop(() -> {
                    for (int i = 0; i < v[0].asInt(); i++) {
                        turn(null, v[1]);
                    }
                });
                return true;
            case "loop":
                loop(() -> {
                    while (true) {
                        turn(null, v[0]);
                    }
                });
                return true;
            case "forall":
                Span all = (Span) v[0].body;
                spansUnderWay.add(all);
                try {
                    loop(() -> {
                        for (int i = 0; i < all.length; i++) {
                            step();
                            push(cells.get(all.first + i));
                            run((Span) v[1].body);
                        }
                    });
                } finally {
                    spansUnderWay.remove(spansUnderWay.size() - 1);
                }
                return true;
            case "exit":
                if (!inLoop) {
                    throw new Failure(11);
                }
                throw new Exit();
            case "stopped":
                stopped(v[0]);
                return true;
            default:
                return false;
        }
    }

    private void turn(Value first, Value p) {
        step();
        if (first != null) {
            push(first);
        }
        run((Span) p.body);
    }

    private void loop(Runnable turns) {
        boolean before = inLoop;
        inLoop = true;
        try {
            turns.run();
        } catch (Exit e) {
            // the innermost loop ends here
        } finally {
            inLoop = before;
        }
    }

    private void stopped(Value x) {
        boolean before = inLoop;
        boolean failed = false;
        inLoop = false;
        try {
            execute(x);
        } catch (Failure f) {
            if (f.number == 16) {
                throw f;
            }
            fault = f.number;
            failed = true;
        } finally {
            inLoop = before;
        }
        push(2, failed);
    }

    // ---- the other operators: what they take is off the STACK, and comes back if they fail

    private void act(String word, Value[] v) {
        if (actOnStack(word, v) || actOnNumbers(word, v) || actOnTruths(word, v) || actOnArrays(word, v) || actOnDicts(word, v)) {
            return;
        }
        actOnPage(word, v);
    }

    private int markPlace() {
        for (int i = stack.size() - 1; i >= 0; i--) {
            if (stack.get(i).kind == 4) {
                return i;
            }
        }
        throw new Failure(9);
    }

    private void cutTo(int n) {
        while (stack.size() > n) {
            stack.remove(stack.size() - 1);
        }
    }

    private boolean actOnStack(String word, Value[] v) {
        int size = stack.size();
        switch (word) {
            case "pop":
                return true;
            case "exch":
                push(v[1]);
                push(v[0]);
                return true;
            case "dup":
                push(v[0]);
                push(v[0]);
                return true;
            case "copy":
                int n = v[0].asInt();
                require(n >= 0 && n <= size, 4);
                for (Value one : new ArrayList<>(stack.subList(size - n, size))) {
                    push(one);
                }
                return true;
            case "index":
                require(v[0].asInt() >= 0 && v[0].asInt() < size, 4);
                push(stack.get(size - 1 - v[0].asInt()));
                return true;
            case "roll":
                require(v[0].asInt() >= 0 && v[0].asInt() <= size, 4);
                java.util.Collections.rotate(stack.subList(size - v[0].asInt(), size), v[1].asInt());
                return true;
            case "clear":
                stack.clear();
                return true;
            case "count":
                push(0, size);
                return true;
            case "mark":
            case "[":
                push(4, "mark");
                return true;
            case "cleartomark":
                cutTo(markPlace());
                return true;
            case "]":
                int place = markPlace();
                Span made = newArray(new ArrayList<>(stack.subList(place + 1, size)));
                cutTo(place);
                push(5, made);
                return true;
            case "repeat":
                throw new Failure(4);
            case "stop":
                throw new Failure(14);
            case "fault":
                push(0, fault);
                return true;
            default:
                return false;
        }
    }

    private static void require(boolean holds, int failure) {
        if (!holds) {
            throw new Failure(failure);
        }
    }

    private void real(double d) {
        require(d <= 1e12 && d >= -1e12, 4);
        push(1, d);
    }

    private void exact(java.math.BigInteger n) {
        if (n.bitLength() <= 31) {
            push(0, n.intValue());
        } else {
            real(n.doubleValue());
        }
    }

    private static java.math.BigInteger big(Value v) {
        return java.math.BigInteger.valueOf(v.asInt());
    }

    private boolean actOnNumbers(String word, Value[] v) {
        boolean ints = v.length > 0 && Arrays.stream(v).allMatch(one -> one.kind == 0);
        switch (word) {
            case "add":
                if (ints) exact(big(v[0]).add(big(v[1]))); else real(v[0].asDouble() + v[1].asDouble());
                return true;
            case "sub":
                if (ints) exact(big(v[0]).subtract(big(v[1]))); else real(v[0].asDouble() - v[1].asDouble());
                return true;
            case "mul":
                if (ints) exact(big(v[0]).multiply(big(v[1]))); else real(v[0].asDouble() * v[1].asDouble());
                return true;
            case "div":
                require(v[1].asDouble() != 0.0, 6);
                real(v[0].asDouble() / v[1].asDouble());
                return true;
            case "idiv":
                require(v[1].asInt() != 0, 6);
                exact(big(v[0]).divide(big(v[1])));
                return true;
            case "mod":
                require(v[1].asInt() != 0, 6);
                exact(big(v[0]).remainder(big(v[1])));
                return true;
            case "neg":
                if (ints) exact(big(v[0]).negate()); else real(0.0 - v[0].asDouble());
                return true;
            case "floor":
                if (ints) push(v[0]); else real(Math.floor(v[0].asDouble()));
                return true;
            case "round":
                if (ints) push(v[0]); else real(Math.floor(v[0].asDouble() + 0.5));
                return true;
            case "cvi":
                java.math.BigInteger cut = new java.math.BigDecimal(v[0].asDouble()).toBigInteger();
                require(cut.bitLength() <= 31, 4);
                push(0, cut.intValue());
                return true;
            case "cvr":
                real(v[0].asDouble());
                return true;
            case "bitshift":
                int j = v[1].asInt();
                push(0, j > 31 || j < -31 ? 0 : j < 0 ? v[0].asInt() >>> -j : v[0].asInt() << j);
                return true;
            default:
                return false;
        }
    }

    private static boolean alike(Value x, Value y) {
        if (x.kind < 2 && y.kind < 2) {
            return x.asDouble() == y.asDouble();
        }
        if (x.kind == 5 && y.kind == 5) {
            Span a = (Span) x.body;
            Span b = (Span) y.body;
            return a.length == b.length && (a.length == 0 || a.first == b.first);
        }
        return x.kind == y.kind && x.body.equals(y.body);
    }

    private boolean actOnTruths(String word, Value[] v) {
        switch (word) {
            case "true": push(2, true); return true;
            case "false": push(2, false); return true;
            case "eq": push(2, alike(v[0], v[1])); return true;
            case "ne": push(2, !alike(v[0], v[1])); return true;
            case "gt": push(2, v[0].asDouble() > v[1].asDouble()); return true;
            case "ge": push(2, v[0].asDouble() >= v[1].asDouble()); return true;
            case "lt": push(2, v[0].asDouble() < v[1].asDouble()); return true;
            case "le": push(2, v[0].asDouble() <= v[1].asDouble()); return true;
            case "and":
                if (v[0].kind == 0) push(0, v[0].asInt() & v[1].asInt()); else push(2, (Boolean) v[0].body && (Boolean) v[1].body);
                return true;
            case "or":
                if (v[0].kind == 0) push(0, v[0].asInt() | v[1].asInt()); else push(2, (Boolean) v[0].body || (Boolean) v[1].body);
                return true;
            case "not":
                if (v[0].kind == 0) push(0, ~v[0].asInt()); else push(2, !(Boolean) v[0].body);
                return true;
            case "cvx": push(v[0].withLive(true)); return true;
            case "cvlit": push(v[0].withLive(false)); return true;
            case "xcheck": push(2, v[0].live); return true;
            case "kind": push(0, v[0].kind); return true;
            default: return false;
        }
    }

    private boolean actOnArrays(String word, Value[] v) {
        Span a = v.length > 0 && v[0].kind == 5 ? (Span) v[0].body : null;
        Dict d = v.length > 0 && v[0].kind == 6 ? (Dict) v[0].body : null;
        switch (word) {
            case "array":
                require(v[0].asInt() >= 0, 4);
                require(v[0].asInt() <= 160, 7);
                push(5, newArray(java.util.Collections.nCopies(v[0].asInt(), new Value(0, false, 0))));
                return true;
            case "length":
                push(0, a != null ? a.length : d.entries.size());
                return true;
            case "get":
                if (a != null) {
                    require(v[1].asInt() >= 0 && v[1].asInt() < a.length, 4);
                    push(cells.get(a.first + v[1].asInt()));
                } else {
                    require(d.entries.containsKey(v[1].body), 5);
                    push(d.entries.get(v[1].body));
                }
                return true;
            case "put":
                if (a != null) {
                    require(v[1].asInt() >= 0 && v[1].asInt() < a.length, 4);
                    cells.set(a.first + v[1].asInt(), v[2]);
                } else {
                    define(d, v[1], v[2]);
                }
                return true;
            case "getinterval":
                int i = v[1].asInt();
                int n = v[2].asInt();
                require(i >= 0 && n >= 0 && (long) i + n <= a.length, 4);
                push(new Value(5, v[0].live, new Span(a.first + i, n)));
                return true;
            case "aload":
                for (int k = 0; k < a.length; k++) {
                    push(cells.get(a.first + k));
                }
                push(v[0]);
                return true;
            default:
                return false;
        }
    }

    private static void define(Dict d, Value name, Value x) {
        require(d.entries.containsKey(name.body) || d.entries.size() < d.room, 8);
        d.entries.put((String) name.body, x);
    }

    private boolean actOnDicts(String word, Value[] v) {
        Dict top = scopes.get(scopes.size() - 1);
        switch (word) {
            case "dict":
                require(v[0].asInt() >= 1 && v[0].asInt() <= 10, 4);
                require(dicts.size() < 7, 7);
                HashSet<Integer> numbers = new HashSet<>();
                dicts.forEach(one -> numbers.add(one.number));
                int free = 1;
                while (numbers.contains(free)) {
                    free++;
                }
                dicts.add(new Dict(free, v[0].asInt()));
                push(6, dicts.get(dicts.size() - 1));
                return true;
            case "begin":
                require(scopes.size() < 6, 7);
                scopes.add((Dict) v[0].body);
                return true;
            case "end":
                require(scopes.size() > 1, 9);
                scopes.remove(scopes.size() - 1);
                return true;
            case "def":
                define(top, v[0], v[1]);
                return true;
            case "load":
                Value told = lookUp((String) v[0].body);
                require(told != null, 5);
                push(told);
                return true;
            case "known":
                push(2, ((Dict) v[0].body).entries.containsKey(v[1].body));
                return true;
            case "currentdict":
                push(6, top);
                return true;
            case "save":
                require(open.size() < 3, 7);
                push(7, saves + 1);
                saves++;
                open.add(new Save(saves, cells, dicts));
                return true;
            case "restore":
                restore(v[0].asInt());
                return true;
            default:
                return false;
        }
    }

    private void restore(int number) {
        Save save = null;
        for (Save one : open) {
            save = one.number == number ? one : save;
        }
        require(save != null, 10);
        for (Value one : stack) {
            require(one.kind != 5 || ((Span) one.body).end() <= save.cells.size(), 10);
            require(one.kind != 6 || save.dicts.containsKey(one.body), 10);
            require(one.kind != 7 || one.asInt() <= number, 10);
        }
        for (Dict one : scopes) {
            require(save.dicts.containsKey(one), 10);
        }
        for (Span one : spansUnderWay) {
            require(one.end() <= save.cells.size(), 10);
        }
        cells.clear();
        cells.addAll(save.cells);
        Save back = save;
        dicts.removeIf(one -> !back.dicts.containsKey(one));
        for (Dict one : dicts) {
            one.entries = new HashMap<>(save.dicts.get(one));
        }
        while (open.contains(save)) {
            open.remove(open.size() - 1);
        }
    }

    int points() {
        return path.stream().mapToInt(List::size).sum();
    }

    private void point(double x, double y, boolean newPart) {
        require(Math.abs(x) <= 1e6 && Math.abs(y) <= 1e6, 4);
        require(newPart || !path.isEmpty(), 13);
        require(points() < 30, 7);
        if (newPart) {
            path.add(new ArrayList<>());
        }
        path.get(path.size() - 1).add(new Point(x, y));
    }

    private void actOnPage(String word, Value[] v) {
        switch (word) {
            case "setgray":
                require(v[0].asDouble() >= 0 && v[0].asDouble() <= 1, 4);
                gray = (float) v[0].asDouble();
                return;
            case "newpath":
                path.clear();
                return;
            case "moveto":
            case "lineto":
                point(v[0].asDouble(), v[1].asDouble(), word.equals("moveto"));
                return;
            case "closepath":
                require(!path.isEmpty(), 13);
                Point first = path.get(path.size() - 1).get(0);
                point(first.x, first.y, false);
                return;
            case "fill":
            case "eofill":
                paint(word.equals("eofill"));
                return;
            default:
                throw new IllegalStateException(word);
        }
    }

    private void paint(boolean byOdd) {
        for (int column = 0; column < columns; column++) {
            for (int row = 0; row < rows; row++) {
                int ups = 0;
                int downs = 0;
                for (List<Point> part : path) {
                    for (int i = 0; i < part.size(); i++) {
                        Point p = part.get(i);
                        Point q = part.get((i + 1) % part.size());
                        double cx = column + 0.5;
                        double cy = row + 0.5;
                        double s = (q.x - p.x) * (cy - p.y) - (cx - p.x) * (q.y - p.y);
                        ups += p.y <= cy && cy < q.y && s > 0 ? 1 : 0;
                        downs += q.y <= cy && cy < p.y && s < 0 ? 1 : 0;
                    }
                }
                if (byOdd ? (ups + downs) % 2 == 1 : ups != downs) {
                    levels[column][row] = (int) (15f * gray + 0.5f);
                }
            }
        }
        path.clear();
    }

    // ---- what is answered

    int painted() {
        return (int) Arrays.stream(levels).flatMapToInt(Arrays::stream).filter(level -> level > 0).count();
    }

    /** All that can be asked of the object but the pixels, in one text. */
    String told() {
        StringBuilder all = new StringBuilder();
        for (int k = 0; k < stack.size(); k++) {
            Value v = stack.get(stack.size() - 1 - k);
            boolean spelled = v.kind != 3 || k < SPELLED;
            all.append(v.kind + (v.live ? 8 : 0)).append(':').append(spelled ? bodyOf(v) : "" + ((String) v.body).length()).append(' ');
        }
        all.append('|').append(cells.size()).append(' ').append(dicts.size() - 1).append(' ').append(scopes.size()).append(' ');
        all.append(open.size()).append(' ').append(points()).append(' ').append(known.size()).append(' ').append(text.length());
        all.append('|').append(steps).append(' ').append(fault);
        return all.toString();
    }

    private static String bodyOf(Value v) {
        switch (v.kind) {
            case 1: return "" + ((Double) v.body + 0.0);
            case 2: return (Boolean) v.body ? "1" : "0";
            case 4: return "0";
            case 5: return "" + ((Span) v.body).length;
            case 6: return "" + ((Dict) v.body).number;
            default: return "" + v.body;
        }
    }
}
