import java.math.BigInteger;
import java.util.ArrayDeque;
import java.util.ArrayList;
import java.util.Collections;
import java.util.Deque;
import java.util.HashMap;
import java.util.HashSet;
import java.util.LinkedHashMap;
import java.util.List;
import java.util.Map;
import java.util.Set;
import java.util.TreeMap;
import java.util.TreeSet;

/**
 * The document told once more, in the plainest way and with the whole library: everything is reckoned anew
 * for each question. FuzzTest holds the class against it.
 */
final class Model {
    static final String[] WORDS = {"+", "-", "*", "/", "&", "=", "#", "<", "<=", "(", ")", ",", "if", "sum",
        "count", "least", "most", "look", "countif", "not", "isfault"};
    static final BigInteger LIMIT = BigInteger.ONE.shiftLeft(120);

    // ---- values

    static final class Val {
        final char kind; // ' ' empty, 'n', 't', 'b', 'f'
        final BigInteger top;
        final BigInteger bottom;
        final String text;

        Val(char kind, BigInteger top, BigInteger bottom, String text) {
            this.kind = kind;
            this.top = top;
            this.bottom = bottom;
            this.text = text;
        }

        boolean is(char k) {
            return kind == k;
        }

        boolean alike(Val other) {
            return kind == other.kind && text.equals(other.text);
        }
    }

    static final Val EMPTY = new Val(' ', null, null, "");

    static Val fault(String text) {
        return new Val('f', null, null, text);
    }

    static Val text(String text) {
        return text.length() > 20 ? fault("#long") : new Val('t', null, null, text);
    }

    static Val truth(boolean is) {
        return new Val('b', null, null, is ? "true" : "false");
    }

    static BigInteger[] reduced(BigInteger top, BigInteger bottom) {
        BigInteger g = top.gcd(bottom);
        if (bottom.signum() < 0) {
            g = g.negate();
        }
        return new BigInteger[] {top.divide(g), bottom.divide(g)};
    }

    static Val number(BigInteger top, BigInteger bottom) {
        BigInteger[] r = reduced(top, bottom);
        if (r[0].abs().compareTo(LIMIT) >= 0 || r[1].compareTo(LIMIT) >= 0) {
            return fault("#long");
        }
        return new Val('n', r[0], r[1], r[1].equals(BigInteger.ONE) ? r[0].toString() : r[0] + "/" + r[1]);
    }

    static Val number(long top) {
        return number(BigInteger.valueOf(top), BigInteger.ONE);
    }

    static int compareNumbers(Val a, Val b) {
        return a.top.multiply(b.bottom).compareTo(b.top.multiply(a.bottom));
    }

    static Val zeroed(Val v) {
        return v.is(' ') ? number(0) : v;
    }

    // ---- tokens

    static final class Tok {
        final int kind;
        final int a;
        final int b;
        final int held;

        Tok(int kind, int a, int b, int held) {
            this.kind = kind;
            this.a = a;
            this.b = b;
            this.held = held;
        }

        boolean word(int w) {
            return kind == 6 && a == w;
        }
    }

    static int sheet(int p) {
        return p / 240;
    }

    static int row(int p) {
        return p % 240 / 8;
    }

    static int col(int p) {
        return p % 8;
    }

    static int at(int sheet, int row, int col) {
        return sheet * 240 + row * 8 + col;
    }

    static List<Integer> area(int one, int other) {
        List<Integer> all = new ArrayList<>();
        for (int r = Math.min(row(one), row(other)); r <= Math.max(row(one), row(other)); r++) {
            for (int c = Math.min(col(one), col(other)); c <= Math.max(col(one), col(other)); c++) {
                all.add(at(sheet(one), r, c));
            }
        }
        return all;
    }

    static String corner(int p, int held) {
        return ((held & 2) != 0 ? "$" : "") + (char) ('a' + col(p)) + ((held & 1) != 0 ? "$" : "") + row(p);
    }

    static String textOf(List<Tok> tokens, int own) {
        StringBuilder s = new StringBuilder();
        for (Tok t : tokens) {
            switch (t.kind) {
                case 0 -> s.append(t.a);
                case 1 -> s.append("w").append(t.a);
                case 2 -> s.append(t.a == 1);
                case 3 -> s.append(sheet(t.a) == own ? "" : sheet(t.a) + ":").append(corner(t.a, t.held));
                case 4 -> {
                    List<Integer> all = area(t.a, t.b);
                    s.append(sheet(t.a) == own ? "" : sheet(t.a) + ":").append(corner(all.get(0), t.held));
                    s.append("..").append(corner(all.get(all.size() - 1), t.held));
                }
                case 5 -> s.append("n").append(t.a);
                case 6 -> s.append(WORDS[t.a]);
                default -> s.append("gone");
            }
        }
        return s.toString();
    }

    // ---- reading formulas

    static final class Slip extends Exception {
        private static final long serialVersionUID = 1L;
        final int at;

        Slip(int at) {
            this.at = at;
        }
    }

    static final class Node {
        final Tok token; // an operand, or null
        final int word; // a word from 0 on, 100 for "-" ahead
        final List<Node> parts = new ArrayList<>();

        Node(Tok token, int word) {
            this.token = token;
            this.word = word;
        }
    }

    static final class Parser {
        final List<Tok> tokens;
        int at;
        int open;

        Parser(List<Tok> tokens) {
            this.tokens = tokens;
        }

        Node all() throws Slip {
            Node n = compare();
            if (at < tokens.size()) {
                throw new Slip(at);
            }
            return n;
        }

        Tok next() throws Slip {
            if (at >= tokens.size()) {
                throw new Slip(tokens.size());
            }
            return tokens.get(at);
        }

        boolean joint(int from, int to) {
            if (at >= tokens.size()) {
                return false;
            }
            Tok t = tokens.get(at);
            return t.kind == 6 && t.a >= from && t.a <= to;
        }

        Node join(Node left, Node right, int word) {
            Node n = new Node(null, word);
            n.parts.add(left);
            n.parts.add(right);
            return n;
        }

        Node compare() throws Slip {
            Node left = concat();
            while (joint(5, 8)) {
                int w = tokens.get(at++).a;
                left = join(left, concat(), w);
            }
            return left;
        }

        Node concat() throws Slip {
            Node left = sum();
            while (joint(4, 4)) {
                int w = tokens.get(at++).a;
                left = join(left, sum(), w);
            }
            return left;
        }

        Node sum() throws Slip {
            Node left = product();
            while (joint(0, 1)) {
                int w = tokens.get(at++).a;
                left = join(left, product(), w);
            }
            return left;
        }

        Node product() throws Slip {
            Node left = single();
            while (joint(2, 3)) {
                int w = tokens.get(at++).a;
                left = join(left, single(), w);
            }
            return left;
        }

        Node single() throws Slip {
            Tok t = next();
            if (t.kind <= 3 || t.kind == 7) {
                at++;
                return new Node(t, -1);
            }
            if (t.word(1)) {
                at++;
                Node n = new Node(null, 100);
                n.parts.add(single());
                return n;
            }
            if (t.word(9)) {
                opening();
                Node n = compare();
                closing();
                return n;
            }
            if (t.kind == 6 && t.a >= 12) {
                at++;
                if (!next().word(9)) {
                    throw new Slip(at);
                }
                opening();
                Node n = new Node(null, t.a);
                String kinds = arguments(t.a);
                for (int k = 0; k < kinds.length(); k++) {
                    if (k > 0) {
                        expect(11);
                    }
                    n.parts.add(kinds.charAt(k) == 'x' ? compare() : areaArgument());
                }
                closing();
                return n;
            }
            throw new Slip(at);
        }

        Node areaArgument() throws Slip {
            Tok t = next();
            if (t.kind == 3 || t.kind == 4 || t.kind == 5 || t.kind == 7) {
                at++;
                return new Node(t, -1);
            }
            throw new Slip(at);
        }

        void opening() throws Slip {
            if (open == 6) {
                throw new Slip(at);
            }
            open++;
            at++;
        }

        void closing() throws Slip {
            expect(10);
            open--;
        }

        void expect(int word) throws Slip {
            if (!next().word(word)) {
                throw new Slip(at);
            }
            at++;
        }

        static String arguments(int word) {
            return switch (word) {
                case 12 -> "xxx";
                case 17 -> "xax";
                case 18 -> "ax";
                case 19, 20 -> "x";
                default -> "a";
            };
        }
    }

    static int slipOf(List<Tok> tokens) {
        try {
            new Parser(tokens).all();
            return -1;
        } catch (Slip s) {
            return s.at;
        }
    }

    // ---- one state

    static final class Cell {
        final Val constant;
        final List<Tok> formula;

        Cell(Val constant, List<Tok> formula) {
            this.constant = constant;
            this.formula = formula;
        }
    }

    static final class State {
        final TreeMap<Integer, Cell> cells = new TreeMap<>();
        final int[][] names = new int[6][];
        final TreeSet<Integer> guarded = new TreeSet<>();
        final TreeMap<Integer, int[]> bounds = new TreeMap<>();
        final TreeMap<Integer, Integer> forms = new TreeMap<>();
        private Map<Integer, Val> values;
        private Map<Integer, Set<Integer>> hangs;

        State copy() {
            State s = new State();
            s.cells.putAll(cells);
            System.arraycopy(names, 0, s.names, 0, 6);
            s.guarded.addAll(guarded);
            s.bounds.putAll(bounds);
            s.forms.putAll(forms);
            return s;
        }

        Set<Integer> readPlaces(int p) {
            Set<Integer> all = new TreeSet<>();
            Cell c = cells.get(p);
            if (c == null || c.formula == null) {
                return all;
            }
            for (Tok t : c.formula) {
                if (t.kind == 3) {
                    all.add(t.a);
                } else if (t.kind == 4) {
                    all.addAll(area(t.a, t.b));
                } else if (t.kind == 5 && names[t.a] != null) {
                    all.addAll(area(names[t.a][0], names[t.a][1]));
                }
            }
            return all;
        }

        /** Every PLACE that a CELL HANGS ON. */
        Set<Integer> hangsOn(int p) {
            if (hangs == null) {
                hangs = new HashMap<>();
                Map<Integer, Set<Integer>> direct = new HashMap<>();
                for (int c : cells.keySet()) {
                    direct.put(c, readPlaces(c));
                }
                for (int c : cells.keySet()) {
                    Set<Integer> all = new HashSet<>();
                    Deque<Integer> todo = new ArrayDeque<>(direct.get(c));
                    while (!todo.isEmpty()) {
                        int next = todo.pop();
                        if (all.add(next) && cells.containsKey(next)) {
                            todo.addAll(direct.get(next));
                        }
                    }
                    hangs.put(c, all);
                }
            }
            Set<Integer> found = hangs.get(p);
            return found == null ? Collections.emptySet() : found;
        }

        boolean onRing(int p) {
            return hangsOn(p).contains(p);
        }

        boolean ringed(int p) {
            if (onRing(p)) {
                return true;
            }
            for (int q : hangsOn(p)) {
                if (cells.containsKey(q) && onRing(q)) {
                    return true;
                }
            }
            return false;
        }

        Val value(int p) {
            if (values == null) {
                values = new HashMap<>();
            }
            Val known = values.get(p);
            if (known != null) {
                return known;
            }
            Cell c = cells.get(p);
            Val v;
            if (c == null) {
                v = EMPTY;
            } else if (c.formula == null) {
                v = c.constant;
            } else if (ringed(p)) {
                v = fault("#ring");
            } else {
                try {
                    v = zeroed(eval(new Parser(c.formula).all()));
                } catch (Slip s) {
                    throw new AssertionError("a formula with a slip: " + textOf(c.formula, sheet(p)));
                }
            }
            values.put(p, v);
            return v;
        }

        int level(int p) {
            if (!cells.containsKey(p)) {
                return 0;
            }
            if (value(p).text.equals("#ring")) {
                return -1;
            }
            int level = 0;
            for (int q : readPlaces(p)) {
                if (cells.containsKey(q)) {
                    level = Math.max(level, level(q) + 1);
                }
            }
            return level;
        }

        // -- evaluating

        Val eval(Node n) {
            if (n.token != null) {
                return operand(n.token);
            }
            if (n.word == 100) {
                Val v = zeroed(eval(n.parts.get(0)));
                return v.is('f') ? v : v.is('n') ? number(v.top.negate(), v.bottom) : fault("#kind");
            }
            return n.word <= 8 ? binary(n) : function(n);
        }

        Val operand(Tok t) {
            return switch (t.kind) {
                case 0 -> number(t.a);
                case 1 -> Model.text("w" + t.a);
                case 2 -> truth(t.a == 1);
                case 3 -> value(t.a);
                default -> fault("#gone");
            };
        }

        Val binary(Node n) {
            Val a = eval(n.parts.get(0));
            Val b = eval(n.parts.get(1));
            if (a.is('f')) {
                return a;
            }
            if (b.is('f')) {
                return b;
            }
            if (n.word == 4) {
                return Model.text(a.text + b.text);
            }
            a = zeroed(a);
            b = zeroed(b);
            if (n.word == 5 || n.word == 6) {
                return truth(a.alike(b) == (n.word == 5));
            }
            if (n.word == 7 || n.word == 8) {
                if (a.kind != b.kind) {
                    return fault("#kind");
                }
                int order = a.is('n') ? compareNumbers(a, b) : a.text.compareTo(b.text);
                return truth(order < 0 || order == 0 && n.word == 8);
            }
            if (!a.is('n') || !b.is('n')) {
                return fault("#kind");
            }
            switch (n.word) {
                case 0:
                    return number(a.top.multiply(b.bottom).add(b.top.multiply(a.bottom)), a.bottom.multiply(b.bottom));
                case 1:
                    return number(a.top.multiply(b.bottom).subtract(b.top.multiply(a.bottom)),
                            a.bottom.multiply(b.bottom));
                case 2:
                    return number(a.top.multiply(b.top), a.bottom.multiply(b.bottom));
                default:
                    return b.top.signum() == 0 ? fault("#zero")
                            : number(a.top.multiply(b.bottom), a.bottom.multiply(b.top));
            }
        }

        Val function(Node n) {
            if (n.word == 12) {
                Val a = eval(n.parts.get(0));
                if (a.is('f')) {
                    return a;
                }
                if (!a.is('b')) {
                    return fault("#kind");
                }
                return zeroed(eval(n.parts.get(a.text.equals("true") ? 1 : 2)));
            }
            if (n.word == 19) {
                Val a = eval(n.parts.get(0));
                return a.is('f') ? a : a.is('b') ? truth(a.text.equals("false")) : fault("#kind");
            }
            if (n.word == 20) {
                return truth(eval(n.parts.get(0)).is('f'));
            }
            if (n.word == 17) {
                return look(n);
            }
            Tok t = n.parts.get(0).token;
            Val wrong = areaFault(t);
            if (wrong != null) {
                return wrong;
            }
            List<Integer> all = places(t);
            if (n.word == 18) {
                Val x = zeroed(eval(n.parts.get(1)));
                if (x.is('f')) {
                    return x;
                }
                int many = 0;
                for (int p : all) {
                    many += value(p).alike(x) ? 1 : 0;
                }
                return number(many);
            }
            return overNumbers(n.word, all);
        }

        Val overNumbers(int word, List<Integer> all) {
            List<Val> numbers = new ArrayList<>();
            for (int p : all) {
                Val v = value(p);
                if (v.is('f') && word != 14) {
                    return v;
                }
                if (v.is('n')) {
                    numbers.add(v);
                }
            }
            if (word == 14) {
                return number(numbers.size());
            }
            if (word == 13) {
                return sum(numbers);
            }
            if (numbers.isEmpty()) {
                return fault("#none");
            }
            Val best = numbers.get(0);
            for (Val v : numbers) {
                int order = compareNumbers(v, best);
                best = word == 15 ? (order < 0 ? v : best) : (order > 0 ? v : best);
            }
            return best;
        }

        Val look(Node n) {
            Val x = zeroed(eval(n.parts.get(0)));
            if (x.is('f')) {
                return x;
            }
            Tok t = n.parts.get(1).token;
            Val wrong = areaFault(t);
            if (wrong != null) {
                return wrong;
            }
            Val k = zeroed(eval(n.parts.get(2)));
            if (k.is('f')) {
                return k;
            }
            List<Integer> all = places(t);
            int first = all.get(0);
            int last = all.get(all.size() - 1);
            int columns = col(last) - col(first) + 1;
            int which = 0;
            for (int c = 1; c <= columns; c++) {
                if (k.is('n') && k.text.equals("" + c)) {
                    which = c;
                }
            }
            if (which == 0) {
                return fault("#place");
            }
            for (int r = row(first); r <= row(last); r++) {
                if (value(at(sheet(first), r, col(first))).alike(x)) {
                    return zeroed(value(at(sheet(first), r, col(first) + which - 1)));
                }
            }
            return fault("#none");
        }

        Val areaFault(Tok t) {
            return t.kind == 7 ? fault("#gone") : t.kind == 5 && names[t.a] == null ? fault("#name") : null;
        }

        List<Integer> places(Tok t) {
            return t.kind == 3 ? area(t.a, t.a) : t.kind == 4 ? area(t.a, t.b) : area(names[t.a][0], names[t.a][1]);
        }

        // -- shifting

        int line(int p, boolean isColumn) {
            return isColumn ? col(p) : row(p);
        }

        int withLine(int p, boolean isColumn, int line) {
            return isColumn ? at(sheet(p), row(p), line) : at(sheet(p), line, col(p));
        }

        boolean canPutIn(int sheet, boolean isColumn) {
            int last = isColumn ? 7 : 29;
            Set<Integer> used = new HashSet<>(cells.keySet());
            used.addAll(guarded);
            used.addAll(bounds.keySet());
            used.addAll(forms.keySet());
            for (Cell c : cells.values()) {
                if (c.formula != null) {
                    for (Tok t : c.formula) {
                        if (t.kind == 3 || t.kind == 4) {
                            used.add(t.a);
                        }
                        if (t.kind == 4) {
                            used.add(t.b);
                        }
                    }
                }
            }
            for (int[] n : names) {
                if (n != null) {
                    used.add(n[0]);
                    used.add(n[1]);
                }
            }
            for (int p : used) {
                if (sheet(p) == sheet && line(p, isColumn) == last) {
                    return false;
                }
            }
            return true;
        }

        /** Where a PLACE comes to, or -1 if it goes. */
        int movedTo(int p, int sheet, boolean isColumn, int at, boolean isIn) {
            int line = line(p, isColumn);
            if (sheet(p) != sheet || line < at) {
                return p;
            }
            if (isIn) {
                return withLine(p, isColumn, line + 1);
            }
            return line == at ? -1 : withLine(p, isColumn, line - 1);
        }

        /** What two corners become: all PLACES of the AREA that are left, and those put in between. */
        int[] movedArea(int one, int other, int sheet, boolean isColumn, int at, boolean isIn) {
            int first = Integer.MAX_VALUE;
            int last = -1;
            for (int p : area(one, other)) {
                int q = movedTo(p, sheet, isColumn, at, isIn);
                if (q >= 0) {
                    first = Math.min(first, q);
                    last = Math.max(last, q);
                }
            }
            return last < 0 ? null : new int[] {first, last};
        }

        State shifted(int sheet, boolean isColumn, int at, boolean isIn) {
            State s = new State();
            for (Map.Entry<Integer, Cell> e : cells.entrySet()) {
                int q = movedTo(e.getKey(), sheet, isColumn, at, isIn);
                Cell c = e.getValue();
                if (q >= 0) {
                    s.cells.put(q, c.formula == null ? c : new Cell(null, shiftedTokens(c.formula, sheet, isColumn, at, isIn)));
                }
            }
            for (int p : guarded) {
                s.guarded.add(movedTo(p, sheet, isColumn, at, isIn));
            }
            bounds.forEach((p, b) -> s.bounds.put(movedTo(p, sheet, isColumn, at, isIn), b));
            forms.forEach((p, f) -> s.forms.put(movedTo(p, sheet, isColumn, at, isIn), f));
            s.guarded.remove(-1);
            s.bounds.remove(-1);
            s.forms.remove(-1);
            for (int k = 0; k < 6; k++) {
                s.names[k] = names[k] == null ? null : movedArea(names[k][0], names[k][1], sheet, isColumn, at, isIn);
            }
            return s;
        }

        List<Tok> shiftedTokens(List<Tok> formula, int sheet, boolean isColumn, int at, boolean isIn) {
            List<Tok> moved = new ArrayList<>();
            for (Tok t : formula) {
                if (t.kind == 3) {
                    int q = movedTo(t.a, sheet, isColumn, at, isIn);
                    moved.add(q < 0 ? new Tok(7, 0, 0, 0) : new Tok(3, q, 0, t.held));
                } else if (t.kind == 4) {
                    int[] q = movedArea(t.a, t.b, sheet, isColumn, at, isIn);
                    moved.add(q == null ? new Tok(7, 0, 0, 0) : new Tok(4, q[0], q[1], t.held));
                } else {
                    moved.add(t);
                }
            }
            return moved;
        }
    }

    static Val sum(List<Val> numbers) {
        BigInteger top = BigInteger.ZERO;
        BigInteger bottom = BigInteger.ONE;
        for (Val v : numbers) {
            BigInteger[] r = reduced(top.multiply(v.bottom).add(v.top.multiply(bottom)), bottom.multiply(v.bottom));
            top = r[0];
            bottom = r[1];
        }
        return number(top, bottom);
    }

    // ---- the object

    private State now = new State();
    private final List<State> behind = new ArrayList<>();
    private final List<State> ahead = new ArrayList<>();
    private List<Tok> input = new ArrayList<>();
    private int knocks;
    private Set<Integer> reckoned = new TreeSet<>();

    static void need(boolean is) {
        if (!is) {
            throw new IllegalArgumentException();
        }
    }

    static boolean place(int p) {
        return p >= 0 && p < 480;
    }

    static void needPlace(int p) {
        need(place(p));
    }

    void needRoom(int p) {
        if (!now.cells.containsKey(p) && now.cells.size() >= 60) {
            throw new IllegalStateException();
        }
    }

    /** Makes a CHANGE; written is null for every PLACE. */
    int change(State next, Set<Integer> written) {
        State before = now;
        behind.add(before);
        if (behind.size() > 10) {
            behind.remove(0);
        }
        ahead.clear();
        now = next;
        reckoned = reckonedBy(before, next, written);
        return reckoned.size();
    }

    static Set<Integer> reckonedBy(State before, State after, Set<Integer> written) {
        Set<Integer> all = new TreeSet<>();
        for (int p : after.cells.keySet()) {
            if (after.cells.get(p).formula == null || after.value(p).text.equals("#ring")) {
                continue;
            }
            boolean is = written == null || written.contains(p);
            for (int q : after.readPlaces(p)) {
                is = is || !before.value(q).alike(after.value(q));
            }
            if (is) {
                all.add(p);
            }
        }
        return all;
    }

    int token(int kind, int a, int b, int c) {
        boolean is = switch (kind) {
            case 0 -> a >= -9999 && a <= 9999;
            case 1 -> a >= 0 && a <= 99;
            case 2 -> a == 0 || a == 1;
            case 3 -> place(a) && b >= 0 && b <= 3;
            case 4 -> place(a) && place(b) && sheet(a) == sheet(b) && c >= 0 && c <= 3;
            case 5 -> a >= 0 && a <= 5;
            case 6 -> a >= 0 && a <= 20;
            default -> false;
        };
        need(is);
        if (input.size() >= 30) {
            throw new IllegalStateException();
        }
        input.add(kind == 4 ? new Tok(4, a, b, c) : new Tok(kind, a, 0, kind == 3 ? b : 0));
        return input.size();
    }

    int rub(int many) {
        need(many >= 0);
        for (int k = 0; k < many && !input.isEmpty(); k++) {
            input.remove(input.size() - 1);
        }
        return input.size();
    }

    int enter(int p) {
        needPlace(p);
        needRoom(p);
        int slip = slipOf(input);
        if (slip != -1) {
            return slip;
        }
        if (now.guarded.contains(p)) {
            return -9;
        }
        State next = now.copy();
        next.cells.put(p, new Cell(null, input));
        input = new ArrayList<>();
        change(next, Set.of(p));
        return -1;
    }

    boolean beyond(int p, Val v) {
        int[] b = now.bounds.get(p);
        return b != null && v.is('n') && (compareNumbers(v, number(b[0])) < 0 || compareNumbers(v, number(b[1])) > 0);
    }

    int constant(int p, Val v) {
        if (now.guarded.contains(p) || beyond(p, v)) {
            return -9;
        }
        State next = now.copy();
        next.cells.put(p, new Cell(v, null));
        return change(next, Set.of(p));
    }

    int number(int p, int top, int bottom) {
        needPlace(p);
        need(Math.abs((long) top) <= 999999 && bottom >= 1 && bottom <= 999);
        needRoom(p);
        return constant(p, number(BigInteger.valueOf(top), BigInteger.valueOf(bottom)));
    }

    int text(int p, int which) {
        needPlace(p);
        need(which >= 0 && which <= 99);
        needRoom(p);
        return constant(p, text("w" + which));
    }

    int truth(int p, boolean is) {
        needPlace(p);
        needRoom(p);
        return constant(p, Model.truth(is));
    }

    int clear(int p) {
        needPlace(p);
        if (now.guarded.contains(p)) {
            return -9;
        }
        State next = now.copy();
        next.cells.remove(p);
        return change(next, Set.of(p));
    }

    int fill(int from, int one, int other) {
        needPlace(from);
        needPlace(one);
        needPlace(other);
        need(sheet(from) == sheet(one) && sheet(one) == sheet(other));
        Cell c = now.cells.get(from);
        Set<Integer> written = new TreeSet<>(area(one, other));
        written.remove(from);
        State next = now.copy();
        for (int p : written) {
            if (now.guarded.contains(p) || c != null && c.formula == null && beyond(p, c.constant)) {
                return -9;
            }
            if (c == null) {
                next.cells.remove(p);
            } else if (c.formula == null) {
                next.cells.put(p, c);
            } else {
                next.cells.put(p, new Cell(null, filled(c.formula, row(p) - row(from), col(p) - col(from))));
            }
        }
        if (next.cells.size() > 60) {
            return -9;
        }
        change(next, written);
        return written.size();
    }

    static int filledPlace(int p, int down, int right, int held) {
        int r = (held & 1) != 0 ? row(p) : row(p) + down;
        int c = (held & 2) != 0 ? col(p) : col(p) + right;
        return r < 0 || r > 29 || c < 0 || c > 7 ? -1 : at(sheet(p), r, c);
    }

    static List<Tok> filled(List<Tok> formula, int down, int right) {
        List<Tok> all = new ArrayList<>();
        for (Tok t : formula) {
            if (t.kind != 3 && t.kind != 4) {
                all.add(t);
                continue;
            }
            int a = filledPlace(t.a, down, right, t.held);
            int b = t.kind == 4 ? filledPlace(t.b, down, right, t.held) : 0;
            all.add(a < 0 || b < 0 ? new Tok(7, 0, 0, 0) : new Tok(t.kind, a, b, t.held));
        }
        return all;
    }

    boolean constantNumber(int p) {
        Cell c = now.cells.get(p);
        return c != null && c.formula == null && c.constant.is('n');
    }

    String goOn(int first, boolean isDown, int many) {
        needPlace(first);
        need(many >= 1 && many <= 28);
        int line = isDown ? row(first) : col(first);
        int end = isDown ? 29 : 7;
        int step = isDown ? 8 : 1;
        if (line + 1 + many > end || !constantNumber(first) || !constantNumber(first + step)) {
            return "-9";
        }
        Val a = now.value(first);
        Val b = now.value(first + step);
        BigInteger top = b.top.multiply(a.bottom).subtract(a.top.multiply(b.bottom));
        BigInteger bottom = a.bottom.multiply(b.bottom);
        State next = now.copy();
        Set<Integer> written = new TreeSet<>();
        Val last = null;
        for (int k = 1; k <= many; k++) {
            int p = first + step * (k + 1);
            last = number(b.top.multiply(bottom).add(top.multiply(BigInteger.valueOf(k)).multiply(b.bottom)),
                    b.bottom.multiply(bottom));
            if (!last.is('n') || now.guarded.contains(p) || beyond(p, last)) {
                return "-9";
            }
            next.cells.put(p, new Cell(last, null));
            written.add(p);
        }
        if (next.cells.size() > 60) {
            return "-9";
        }
        change(next, written);
        return last.text;
    }

    int name(int name, int one, int other) {
        need(name >= 0 && name <= 5);
        need(one == -1 || place(one) && place(other) && sheet(one) == sheet(other));
        int was = now.names[name] == null ? 0 : 1;
        State next = now.copy();
        next.names[name] = one == -1 ? null : new int[] {one, other};
        change(next, null);
        return was;
    }

    void needLine(int sheet, boolean isColumn, int at) {
        need(sheet == 0 || sheet == 1);
        need(at >= 0 && at <= (isColumn ? 7 : 29));
    }

    int putIn(int sheet, boolean isColumn, int at) {
        needLine(sheet, isColumn, at);
        if (!now.canPutIn(sheet, isColumn)) {
            return -9;
        }
        int moved = 0;
        for (int p : now.cells.keySet()) {
            moved += now.movedTo(p, sheet, isColumn, at, true) != p ? 1 : 0;
        }
        change(now.shifted(sheet, isColumn, at, true), null);
        return moved;
    }

    int takeOut(int sheet, boolean isColumn, int at) {
        needLine(sheet, isColumn, at);
        for (int p : now.guarded) {
            if (now.movedTo(p, sheet, isColumn, at, false) == -1) {
                return -9;
            }
        }
        int went = 0;
        for (int p : now.cells.keySet()) {
            went += now.movedTo(p, sheet, isColumn, at, false) == -1 ? 1 : 0;
        }
        change(now.shifted(sheet, isColumn, at, false), null);
        return went;
    }

    int guard(int p, boolean is) {
        needPlace(p);
        State next = now.copy();
        boolean was = is ? !next.guarded.add(p) : next.guarded.remove(p);
        change(next, Set.of());
        return was ? 1 : 0;
    }

    int bound(int p, int least, int greatest) {
        needPlace(p);
        State next = now.copy();
        int[] was = greatest < least ? next.bounds.remove(p) : next.bounds.put(p, new int[] {least, greatest});
        change(next, Set.of());
        return was == null ? 0 : 1;
    }

    int form(int p, int digits) {
        needPlace(p);
        need(digits >= -1 && digits <= 3);
        State next = now.copy();
        Integer was = digits == -1 ? next.forms.remove(p) : next.forms.put(p, digits);
        change(next, Set.of());
        return was == null ? -1 : was;
    }

    Val with(int in, int out, Val x) {
        State s = now.copy();
        s.cells.put(in, new Cell(x, null));
        return s.value(out);
    }

    String goal(int in, int out, int top, int bottom) {
        needPlace(in);
        needPlace(out);
        need(Math.abs((long) top) <= 999999 && bottom >= 1 && bottom <= 999);
        needRoom(in);
        Val f0 = with(in, out, number(0));
        Val f1 = with(in, out, number(1));
        if (!f0.is('n') || !f1.is('n') || f0.alike(f1)) {
            return "-9";
        }
        BigInteger wTop = BigInteger.valueOf(top);
        BigInteger wBottom = BigInteger.valueOf(bottom);
        BigInteger overTop = wTop.multiply(f0.bottom).subtract(f0.top.multiply(wBottom));
        BigInteger overBottom = wBottom.multiply(f0.bottom);
        BigInteger underTop = f1.top.multiply(f0.bottom).subtract(f0.top.multiply(f1.bottom));
        BigInteger underBottom = f0.bottom.multiply(f1.bottom);
        Val x = number(overTop.multiply(underBottom), overBottom.multiply(underTop));
        if (!x.is('n') || now.guarded.contains(in) || beyond(in, x)
                || !with(in, out, x).alike(number(wTop, wBottom))) {
            return "-9";
        }
        constant(in, x);
        return x.text;
    }

    Set<Integer> live() {
        return reckonedBy(now, now, null);
    }

    int undo() {
        if (behind.isEmpty()) {
            throw new IllegalStateException();
        }
        ahead.add(now);
        now = behind.remove(behind.size() - 1);
        reckoned = live();
        return behind.size();
    }

    int redo() {
        if (ahead.isEmpty()) {
            throw new IllegalStateException();
        }
        behind.add(now);
        now = ahead.remove(ahead.size() - 1);
        reckoned = live();
        return ahead.size();
    }

    int knock() {
        return ++knocks;
    }

    String input() {
        return textOf(input, 0);
    }

    int slip() {
        return slipOf(input);
    }

    String value(int p) {
        needPlace(p);
        return now.value(p).text;
    }

    String formula(int p) {
        needPlace(p);
        Cell c = now.cells.get(p);
        return c == null ? "" : c.formula == null ? c.constant.text : "=" + textOf(c.formula, sheet(p));
    }

    String shown(int p) {
        needPlace(p);
        Val v = now.value(p);
        Integer digits = now.forms.get(p);
        if (!v.is('n') || digits == null) {
            return v.text;
        }
        java.math.BigDecimal d = new java.math.BigDecimal(v.top).divide(new java.math.BigDecimal(v.bottom), digits,
                java.math.RoundingMode.HALF_UP);
        return d.toPlainString();
    }

    Set<Integer> cellsOf(Set<Integer> places) {
        Set<Integer> all = new TreeSet<>(places);
        all.retainAll(now.cells.keySet());
        return all;
    }

    Set<Integer> readers(int p) {
        Set<Integer> all = new TreeSet<>();
        for (int q : now.cells.keySet()) {
            if (now.readPlaces(q).contains(p)) {
                all.add(q);
            }
        }
        return all;
    }

    int ofPlace(int p, int what) {
        needPlace(p);
        need(what >= 0 && what <= 9);
        Cell c = now.cells.get(p);
        switch (what) {
            case 0:
                return " ntbf".indexOf(now.value(p).kind);
            case 1:
                return c != null && c.formula != null ? 1 : 0;
            case 2:
                return now.level(p);
            case 3:
                return now.onRing(p) ? 1 : 0;
            case 4:
                return cellsOf(now.readPlaces(p)).size();
            case 5:
                return readers(p).size();
            case 6:
                int many = 0;
                for (int q : now.cells.keySet()) {
                    many += now.hangsOn(q).contains(p) ? 1 : 0;
                }
                return many;
            case 7:
                return now.guarded.contains(p) ? 1 : 0;
            case 8:
                return now.forms.getOrDefault(p, -1);
            default:
                return reckoned.contains(p) ? 1 : 0;
        }
    }

    static String joined(Iterable<?> all) {
        StringBuilder s = new StringBuilder();
        for (Object o : all) {
            s.append(s.length() == 0 ? "" : " ").append(o);
        }
        return s.toString();
    }

    String reads(int p, boolean isBack) {
        needPlace(p);
        return joined(isBack ? readers(p) : cellsOf(now.readPlaces(p)));
    }

    String why(int p) {
        needPlace(p);
        StringBuilder s = new StringBuilder(formula(p) + " = " + value(p));
        for (int q : cellsOf(now.readPlaces(p))) {
            s.append("; ").append(q).append(":").append(value(q));
        }
        return s.toString();
    }

    void needRows(int one, int last, int column) {
        needPlace(one);
        needPlace(last);
        need(sheet(one) == sheet(last) && row(one) <= row(last) && column >= 0 && column <= 7);
    }

    int order(Val a, Val b) {
        int rank = Integer.compare("ntbf ".indexOf(a.kind), "ntbf ".indexOf(b.kind));
        if (rank != 0 || a.is('f') || a.is(' ')) {
            return rank;
        }
        return a.is('n') ? compareNumbers(a, b) : a.text.compareTo(b.text);
    }

    String sorted(int one, int last, int column, boolean isFalling) {
        needRows(one, last, column);
        List<Integer> rows = new ArrayList<>();
        for (int r = row(one); r <= row(last); r++) {
            rows.add(r);
        }
        int s = sheet(one);
        rows.sort((a, b) -> {
            int o = order(now.value(at(s, a, column)), now.value(at(s, b, column)));
            return isFalling ? -o : o;
        });
        return joined(rows);
    }

    String filtered(int one, int last, int column, int word, int number) {
        needRows(one, last, column);
        need(word >= 5 && word <= 8);
        List<Integer> rows = new ArrayList<>();
        for (int r = row(one); r <= row(last); r++) {
            Val v = zeroed(now.value(at(sheet(one), r, column)));
            Val w = number(number);
            boolean is = switch (word) {
                case 5 -> v.alike(w);
                case 6 -> !v.is('f') && !v.alike(w);
                case 7 -> v.is('n') && compareNumbers(v, w) < 0;
                default -> v.is('n') && compareNumbers(v, w) <= 0;
            };
            if (is) {
                rows.add(r);
            }
        }
        return joined(rows);
    }

    String grouped(int one, int last, int column, int other) {
        needRows(one, last, column);
        need(other >= 0 && other <= 7);
        Map<String, List<Val>> groups = new TreeMap<>();
        for (int r = row(one); r <= row(last); r++) {
            Val key = now.value(at(sheet(one), r, column));
            List<Val> numbers = groups.computeIfAbsent(key.is(' ') ? "-" : key.text, k -> new ArrayList<>());
            Val v = now.value(at(sheet(one), r, other));
            if (v.is('n')) {
                numbers.add(v);
            }
        }
        Map<String, String> told = new LinkedHashMap<>();
        groups.forEach((k, v) -> told.put(k, sum(v).text));
        StringBuilder s = new StringBuilder();
        told.forEach((k, v) -> s.append(s.length() == 0 ? "" : " ").append(k).append(":").append(v));
        return s.toString();
    }

    String whatIf(int in, int out, int from, int step, int many) {
        needPlace(in);
        needPlace(out);
        need(Math.abs((long) from) <= 9999 && Math.abs((long) step) <= 9999 && many >= 1 && many <= 8);
        StringBuilder s = new StringBuilder();
        for (int k = 0; k < many; k++) {
            s.append(k == 0 ? "" : " ").append(with(in, out, number(from + (long) k * step)).text);
        }
        return s.toString();
    }

    String reckoned() {
        return joined(reckoned);
    }

    int house(int what) {
        need(what >= 0 && what <= 9);
        int many = 0;
        switch (what) {
            case 0:
                return now.cells.size();
            case 1:
                for (int p : now.cells.keySet()) {
                    many += ofPlace(p, 1);
                }
                return many;
            case 2:
                for (int p : now.cells.keySet()) {
                    many += ofPlace(p, 0) == 4 ? 1 : 0;
                }
                return many;
            case 3:
                for (int p : now.cells.keySet()) {
                    many += ofPlace(p, 3);
                }
                return many;
            case 4:
                many = -1;
                for (int p : now.cells.keySet()) {
                    many = Math.max(many, now.level(p));
                }
                return many;
            case 5:
                for (int[] n : now.names) {
                    many += n == null ? 0 : 1;
                }
                return many;
            case 6:
                return now.guarded.size();
            case 7:
                return behind.size();
            case 8:
                return ahead.size();
            default:
                return knocks;
        }
    }

    boolean isSound() {
        for (int sheet = 0; sheet < 2; sheet++) {
            if (now.canPutIn(sheet, false)) {
                State back = now.shifted(sheet, false, 3, true).shifted(sheet, false, 3, false);
                for (int p = 0; p < 480; p++) {
                    Cell c = now.cells.get(p);
                    Cell d = back.cells.get(p);
                    String a = c == null || c.formula == null ? "" : textOf(c.formula, sheet(p));
                    String b = d == null || d.formula == null ? "" : textOf(d.formula, sheet(p));
                    if (!a.equals(b)) {
                        return false;
                    }
                }
            }
        }
        return true;
    }

    long digest() {
        long d = 5904;
        for (int k = 0; k <= 9; k++) {
            d = d * 31 + house(k);
        }
        for (int p : now.cells.keySet()) {
            d = d * 31 + p;
            for (int k = 0; k <= 9; k++) {
                d = d * 31 + ofPlace(p, k);
            }
            d = d * 31 + value(p).length();
            d = d * 31 + formula(p).length();
            d = d * 31 + shown(p).length();
            d = d * 31 + why(p).length();
        }
        d = d * 31 + input().length();
        d = d * 31 + slip();
        d = d * 31 + reckoned().length();
        for (int s = 0; s < 2; s++) {
            d = d * 31 + sorted(s * 240, s * 240 + 239, 0, false).length();
            d = d * 31 + grouped(s * 240, s * 240 + 239, 0, 1).length();
        }
        return d * 31 + (isSound() ? 1 : 0);
    }

    // ---- what FuzzTest asks to choose its calls

    int cells() {
        return now.cells.size();
    }
}
