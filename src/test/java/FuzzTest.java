import java.util.ArrayList;
import java.util.List;
import java.util.Random;
import java.util.function.Supplier;

/**
 * Holds the class against the plain Model in long runs of calls, chosen by fixed seeds. Each run has a
 * temper: where it likes to write, and how wild its numbers and formulas are.
 * With arguments: the first seed and how many runs.
 */
public final class FuzzTest {
    private static int wrong = 0;
    private final Random random;
    private final long seed;
    private final Sheetengine x = new Sheetengine();
    private final Model m = new Model();
    private final List<String> calls = new ArrayList<>();
    private final int temper;
    private final int[] favourites = new int[14];

    private FuzzTest(long seed) {
        this.seed = seed;
        random = new Random(seed * 7919);
        temper = (int) (seed % 7);
        for (int k = 0; k < favourites.length; k++) {
            int sheet = random.nextInt(4) == 0 ? 1 : 0;
            boolean isTight = temper == 6;
            int row = isTight ? k % 4 : temper == 1 ? 29 - random.nextInt(3) : temper == 2 ? random.nextInt(30) : random.nextInt(4);
            int column = isTight ? k / 4 : temper == 1 ? 7 - random.nextInt(3) : temper == 2 ? random.nextInt(8) : random.nextInt(3);
            favourites[k] = (isTight ? 0 : sheet) * 240 + row * 8 + column;
        }
    }

    public static void main(String[] args) {
        long first = args.length > 0 ? Long.parseLong(args[0]) : 1;
        long many = args.length > 1 ? Long.parseLong(args[1]) : 140;
        for (long seed = first; seed < first + many && wrong < 3; seed++) {
            new FuzzTest(seed).run();
        }
        System.out.println(wrong == 0 ? "all runs agree with the model" : "some runs do not agree with the model");
        if (wrong > 0) {
            System.exit(1);
        }
    }

    private void run() {
        int before = wrong;
        for (int k = 0; k < 420 && wrong == before; k++) {
            call();
            if (k % 60 == 59 && wrong == before) {
                all();
            }
        }
    }

    // ---- comparing

    private void same(String call, Supplier<Object> mine, Supplier<Object> due) {
        calls.add(call);
        String a = answer(mine);
        String b = answer(due);
        if (!a.equals(b)) {
            wrong++;
            System.out.println("seed " + seed + ", call " + calls.size() + ": " + call + " answered " + a + ", due is " + b);
            for (int k = Math.max(0, calls.size() - 60); k < calls.size(); k++) {
                System.out.println("    " + calls.get(k));
            }
        }
    }

    private static String answer(Supplier<Object> call) {
        try {
            return String.valueOf(call.get());
        } catch (IllegalArgumentException | IllegalStateException e) {
            return "throws." + e.getClass().getSimpleName();
        } catch (RuntimeException e) {
            return "MACHINE " + e;
        }
    }

    private void all() {
        for (int p = 0; p < 480 && wrong < 3; p++) {
            int q = p;
            boolean isNear = m.ofPlace(p, 0) != 0 || p % 17 == calls.size() % 17;
            if (isNear) {
                same("value(" + q + ")", () -> x.value(q), () -> m.value(q));
                same("formula(" + q + ")", () -> x.formula(q), () -> m.formula(q));
                same("shown(" + q + ")", () -> x.shown(q), () -> m.shown(q));
                same("why(" + q + ")", () -> x.why(q), () -> m.why(q));
                same("reads(" + q + ", true)", () -> x.reads(q, true), () -> m.reads(q, true));
                same("reads(" + q + ", false)", () -> x.reads(q, false), () -> m.reads(q, false));
                for (int k = 0; k <= 9; k++) {
                    int what = k;
                    same("ofPlace(" + q + ", " + what + ")", () -> x.ofPlace(q, what), () -> m.ofPlace(q, what));
                }
            }
        }
        for (int k = 0; k <= 9; k++) {
            int what = k;
            same("house(" + what + ")", () -> x.house(what), () -> m.house(what));
        }
        same("reckoned()", x::reckoned, m::reckoned);
        same("isSound()", x::isSound, m::isSound);
        same("digest()", x::digest, m::digest);
    }

    // ---- choosing

    private int below(int n) {
        return random.nextInt(n);
    }

    private int place() {
        int k = below(20);
        if (k < 14) {
            return favourites[k];
        }
        if (k == 14) {
            return below(480);
        }
        return favourites[below(14)] / 240 * 240 + below(4) * 8 + below(4);
    }

    /** A PLACE, or now and then none. */
    private int anyPlace() {
        int k = below(60);
        return k == 0 ? -1 : k == 1 ? 480 : k == 2 ? below(2) == 0 ? Integer.MIN_VALUE : Integer.MAX_VALUE : place();
    }

    private int near(int p) {
        int row = Math.min(29, p % 240 / 8 + below(4));
        int column = Math.min(7, p % 8 + below(3));
        return below(40) == 0 ? place() : p / 240 * 240 + row * 8 + column;
    }

    private int any(int least, int greatest) {
        int k = below(40);
        return k == 0 ? least - 1 : k == 1 ? greatest + 1 : k == 2 ? least : k == 3 ? greatest
                : least + below(greatest - least + 1);
    }

    private void call() {
        int k = below(100);
        if (below(25) == 0) {
            wild();
        } else if (temper == 6 && k < 60) {
            climb();
        } else if (k < 30) {
            enter();
        } else if (k < 52) {
            put();
        } else if (k < 70) {
            change();
        } else if (k < 78) {
            steps();
        } else {
            ask();
        }
    }

    private int strange() {
        int[] strange = {Integer.MIN_VALUE, Integer.MIN_VALUE + 1, -1000000, -999999, -10000, -9999, -10, -9, -2, -1, 0, 1, 2, 3,
            4, 5, 6, 7, 8, 9, 10, 28, 29, 30, 99, 100, 239, 240, 479, 480, 481, 9999, 10000, 999, 1000, 999999, 1000000,
            1 << 29, 1 << 30, Integer.MAX_VALUE - 1, Integer.MAX_VALUE};
        return below(2) == 0 ? strange[below(strange.length)] : place();
    }

    /** Any call with any numbers. */
    private void wild() {
        int a = strange();
        int b = strange();
        int c = strange();
        int d = strange();
        int e = strange();
        boolean is = below(2) == 0;
        String told = "(" + a + ", " + b + ", " + c + ", " + d + ", " + e + ", " + is + ")";
        switch (below(25)) {
            case 0 -> same("token" + told, () -> x.token(a, b, c, d), () -> m.token(a, b, c, d));
            case 1 -> same("rub" + told, () -> x.rub(a), () -> m.rub(a));
            case 2 -> same("enter" + told, () -> x.enter(a), () -> m.enter(a));
            case 3 -> same("number" + told, () -> x.number(a, b, c), () -> m.number(a, b, c));
            case 4 -> same("text" + told, () -> x.text(a, b), () -> m.text(a, b));
            case 5 -> same("truth" + told, () -> x.truth(a, is), () -> m.truth(a, is));
            case 6 -> same("clear" + told, () -> x.clear(a), () -> m.clear(a));
            case 7 -> same("fill" + told, () -> x.fill(a, b, c), () -> m.fill(a, b, c));
            case 8 -> same("goOn" + told, () -> x.goOn(a, is, b), () -> m.goOn(a, is, b));
            case 9 -> same("name" + told, () -> x.name(a, b, c), () -> m.name(a, b, c));
            case 10 -> same("putIn" + told, () -> x.putIn(a, is, b), () -> m.putIn(a, is, b));
            case 11 -> same("takeOut" + told, () -> x.takeOut(a, is, b), () -> m.takeOut(a, is, b));
            case 12 -> same("guard" + told, () -> x.guard(a, is), () -> m.guard(a, is));
            case 13 -> same("bound" + told, () -> x.bound(a, b, c), () -> m.bound(a, b, c));
            case 14 -> same("form" + told, () -> x.form(a, b), () -> m.form(a, b));
            case 15 -> same("goal" + told, () -> x.goal(a, b, c, d), () -> m.goal(a, b, c, d));
            case 16 -> same("shown" + told, () -> x.shown(a), () -> m.shown(a));
            case 17 -> same("ofPlace" + told, () -> x.ofPlace(a, b), () -> m.ofPlace(a, b));
            case 18 -> same("reads" + told, () -> x.reads(a, is), () -> m.reads(a, is));
            case 19 -> same("why" + told, () -> x.why(a), () -> m.why(a));
            case 20 -> same("sorted" + told, () -> x.sorted(a, b, c, is), () -> m.sorted(a, b, c, is));
            case 21 -> same("filtered" + told, () -> x.filtered(a, b, c, d, e), () -> m.filtered(a, b, c, d, e));
            case 22 -> same("grouped" + told, () -> x.grouped(a, b, c, d), () -> m.grouped(a, b, c, d));
            case 23 -> same("whatIf" + told, () -> x.whatIf(a, b, c, d, e), () -> m.whatIf(a, b, c, d, e));
            default -> same("house" + told, () -> x.house(a), () -> m.house(a));
        }
    }

    /** Formulas over favourites that stand earlier, so that NUMBERS come to be long. */
    private void climb() {
        int k = below(14);
        int p = favourites[k];
        if (k < 3) {
            int top = any(-999999, 999999);
            int bottom = any(1, 999);
            same("number(" + p + ", " + top + ", " + bottom + ")", () -> x.number(p, top, bottom), () -> m.number(p, top, bottom));
            return;
        }
        int one = favourites[k - 1 - below(3)];
        int other = favourites[below(k)];
        int joint = below(8) == 0 ? below(9) : new int[] {2, 2, 3, 0, 1}[below(5)];
        List<int[]> tokens = new ArrayList<>();
        if (below(5) == 0) {
            int far = one / 240 == other / 240 ? other : one;
            tokens.add(word(below(4) == 0 ? 15 + below(2) : 13));
            tokens.add(word(9));
            tokens.add(new int[] {4, one, far, 0});
            tokens.add(word(10));
        } else {
            tokens.add(new int[] {3, one, 0, 0});
        }
        tokens.add(word(joint));
        tokens.add(new int[] {3, other, 0, 0});
        same("rub(30)", () -> x.rub(30), () -> m.rub(30));
        for (int[] t : tokens) {
            same("token(" + t[0] + ", " + t[1] + ", " + t[2] + ", " + t[3] + ")",
                    () -> x.token(t[0], t[1], t[2], t[3]), () -> m.token(t[0], t[1], t[2], t[3]));
        }
        same("enter(" + p + ")", () -> x.enter(p), () -> m.enter(p));
        same("value(" + p + ")", () -> x.value(p), () -> m.value(p));
        if (below(4) == 0) {
            same("goal(" + one + ", " + p + ", " + 7 + ", " + 3 + ")", () -> x.goal(one, p, 7, 3), () -> m.goal(one, p, 7, 3));
            same("whatIf(" + one + ", " + p + ", 1, 3, 3)", () -> x.whatIf(one, p, 1, 3, 3), () -> m.whatIf(one, p, 1, 3, 3));
        }
        if (below(6) == 0) {
            boolean is = below(2) == 0;
            same("goOn(" + one + ", " + is + ", 3)", () -> x.goOn(one, is, 3), () -> m.goOn(one, is, 3));
        }
    }

    private void put() {
        int p = anyPlace();
        int k = below(10);
        if (k < 6) {
            int top = temper == 3 ? any(-999999, 999999) : below(12) - 4;
            int bottom = temper == 3 ? any(1, 999) : below(3) == 0 ? 1 + below(4) : 1;
            same("number(" + p + ", " + top + ", " + bottom + ")", () -> x.number(p, top, bottom), () -> m.number(p, top, bottom));
        } else if (k < 7) {
            int which = below(3) == 0 ? any(0, 99) : below(3);
            same("text(" + p + ", " + which + ")", () -> x.text(p, which), () -> m.text(p, which));
        } else if (k < 8) {
            boolean is = below(2) == 0;
            same("truth(" + p + ", " + is + ")", () -> x.truth(p, is), () -> m.truth(p, is));
        } else {
            same("clear(" + p + ")", () -> x.clear(p), () -> m.clear(p));
        }
    }

    private void change() {
        int p = anyPlace();
        int q = near(Math.max(0, Math.min(479, p)));
        boolean is = below(2) == 0;
        switch (below(10)) {
            case 0, 1 -> {
                int r = below(temper == 4 ? 2 : 5) == 0 ? place() : q;
                int s = temper == 4 ? Math.min(479, r + below(60)) : near(r);
                same("fill(" + p + ", " + r + ", " + s + ")", () -> x.fill(p, r, s), () -> m.fill(p, r, s));
            }
            case 2 -> {
                int many = below(3) == 0 ? any(1, 28) : 1 + below(4);
                if (below(2) == 0 && p >= 0 && p < 479) {
                    int o = p + (is ? 8 : 1);
                    int a = below(9) - 3;
                    int b = 1 + below(3);
                    same("number(" + p + ", " + a + ", 1)", () -> x.number(p, a, 1), () -> m.number(p, a, 1));
                    same("number(" + o + ", " + a + ", " + b + ")", () -> x.number(o, a, b), () -> m.number(o, a, b));
                }
                same("goOn(" + p + ", " + is + ", " + many + ")", () -> x.goOn(p, is, many), () -> m.goOn(p, is, many));
            }
            case 3 -> {
                int n = any(0, 5);
                int one = below(5) == 0 ? -1 : p;
                same("name(" + n + ", " + one + ", " + q + ")", () -> x.name(n, one, q), () -> m.name(n, one, q));
            }
            case 4, 5 -> {
                int sheet = any(0, 1);
                int at = below(3) == 0 ? any(0, is ? 7 : 29) : below(5);
                if (below(2) == 0) {
                    same("putIn(" + sheet + ", " + is + ", " + at + ")", () -> x.putIn(sheet, is, at), () -> m.putIn(sheet, is, at));
                } else {
                    same("takeOut(" + sheet + ", " + is + ", " + at + ")", () -> x.takeOut(sheet, is, at), () -> m.takeOut(sheet, is, at));
                }
            }
            case 6 -> {
                boolean guard = below(3) == 0;
                same("guard(" + p + ", " + guard + ")", () -> x.guard(p, guard), () -> m.guard(p, guard));
            }
            case 7 -> {
                int least = below(20) - 12;
                int greatest = below(6) == 0 ? Integer.MAX_VALUE : below(20) - 2;
                same("bound(" + p + ", " + least + ", " + greatest + ")", () -> x.bound(p, least, greatest), () -> m.bound(p, least, greatest));
            }
            case 8 -> {
                int digits = any(-1, 3);
                same("form(" + p + ", " + digits + ")", () -> x.form(p, digits), () -> m.form(p, digits));
            }
            default -> {
                int top = below(4) == 0 ? any(-999999, 999999) : below(20) - 5;
                int bottom = below(4) == 0 ? any(1, 999) : 1 + below(3);
                int out = place();
                same("goal(" + p + ", " + out + ", " + top + ", " + bottom + ")", () -> x.goal(p, out, top, bottom), () -> m.goal(p, out, top, bottom));
            }
        }
        if (below(3) == 0) {
            same("reckoned()", x::reckoned, m::reckoned);
        }
    }

    private void steps() {
        int many = 1 + below(below(8) == 0 ? 12 : 3);
        for (int k = 0; k < many; k++) {
            switch (below(7)) {
                case 0, 1, 2 -> same("undo()", x::undo, m::undo);
                case 3, 4 -> same("redo()", x::redo, m::redo);
                case 5 -> same("reckoned()", x::reckoned, m::reckoned);
                default -> same("knock()", x::knock, m::knock);
            }
        }
    }

    private void ask() {
        int p = anyPlace();
        int q = anyPlace();
        boolean is = below(2) == 0;
        int column = below(3) == 0 ? any(0, 7) : Math.floorMod(p, 8);
        switch (below(10)) {
            case 0 -> same("value(" + p + ")", () -> x.value(p), () -> m.value(p));
            case 1 -> same("why(" + p + ")", () -> x.why(p), () -> m.why(p));
            case 2 -> same("shown(" + p + ")", () -> x.shown(p), () -> m.shown(p));
            case 3 -> {
                int what = any(0, 9);
                same("ofPlace(" + p + ", " + what + ")", () -> x.ofPlace(p, what), () -> m.ofPlace(p, what));
                same("house(" + what + ")", () -> x.house(what), () -> m.house(what));
            }
            case 4 -> same("reads(" + p + ", " + is + ")", () -> x.reads(p, is), () -> m.reads(p, is));
            case 5 -> {
                int r = rowsTo(p, q);
                same("sorted(" + p + ", " + r + ", " + column + ", " + is + ")", () -> x.sorted(p, r, column, is), () -> m.sorted(p, r, column, is));
            }
            case 6 -> {
                int word = any(5, 8);
                int number = below(10) == 0 ? random.nextInt() : below(6) - 1;
                int r = rowsTo(p, q);
                same("filtered(" + p + ", " + r + ", " + column + ", " + word + ", " + number + ")",
                        () -> x.filtered(p, r, column, word, number), () -> m.filtered(p, r, column, word, number));
            }
            case 7 -> {
                int r = rowsTo(p, q);
                int other = any(0, 7);
                same("grouped(" + p + ", " + r + ", " + column + ", " + other + ")",
                        () -> x.grouped(p, r, column, other), () -> m.grouped(p, r, column, other));
            }
            case 8 -> {
                int from = below(3) == 0 ? any(-9999, 9999) : below(9) - 3;
                int step = below(3) == 0 ? any(-9999, 9999) : below(5) - 1;
                int many = any(1, 8);
                same("whatIf(" + p + ", " + q + ", " + from + ", " + step + ", " + many + ")",
                        () -> x.whatIf(p, q, from, step, many), () -> m.whatIf(p, q, from, step, many));
            }
            default -> same("formula(" + p + ")", () -> x.formula(p), () -> m.formula(p));
        }
    }

    private int rowsTo(int p, int q) {
        return below(3) == 0 || p < 0 || p >= 480 ? q : p / 240 * 240 + (29 - below(15)) * 8 + below(8);
    }

    // ---- formulas

    private void enter() {
        if (below(3) > 0) {
            same("rub(30)", () -> x.rub(30), () -> m.rub(30));
        } else {
            int many = any(0, 5);
            same("rub(" + many + ")", () -> x.rub(many), () -> m.rub(many));
        }
        List<int[]> tokens = new ArrayList<>();
        expression(tokens, temper == 5 ? 4 : 3);
        if (below(8) == 0 && !tokens.isEmpty()) {
            spoil(tokens);
        }
        for (int[] t : tokens) {
            same("token(" + t[0] + ", " + t[1] + ", " + t[2] + ", " + t[3] + ")",
                    () -> x.token(t[0], t[1], t[2], t[3]), () -> m.token(t[0], t[1], t[2], t[3]));
            if (below(12) == 0) {
                same("slip()", x::slip, m::slip);
            }
        }
        if (below(4) == 0) {
            same("slip()", x::slip, m::slip);
            same("input()", x::input, m::input);
        }
        int p = anyPlace();
        same("enter(" + p + ")", () -> x.enter(p), () -> m.enter(p));
    }

    private void spoil(List<int[]> tokens) {
        int at = below(tokens.size());
        int[] strange = below(3) == 0 ? new int[] {below(9) - 1, below(600) - 50, below(600) - 50, below(6) - 1}
                : below(2) == 0 ? word(below(21)) : areaToken();
        switch (below(3)) {
            case 0 -> tokens.remove(at);
            case 1 -> tokens.add(at, strange);
            default -> tokens.set(at, strange);
        }
    }

    private static int[] word(int w) {
        return new int[] {6, w, 0, 0};
    }

    private int[] areaToken() {
        int k = below(6);
        if (k == 0) {
            return new int[] {5, below(6), 0, 0};
        }
        if (k == 1) {
            return new int[] {3, place(), below(4), 0};
        }
        int p = place();
        int q = below(10) == 0 ? p / 240 * 240 + below(240) : Math.max(p / 240 * 240, near(p));
        return below(2) == 0 ? new int[] {4, p, q, below(4)} : new int[] {4, q, p, below(4)};
    }

    private int[] operand() {
        int k = below(20);
        if (k < 12) {
            return new int[] {3, place(), below(2) == 0 ? 0 : below(4), 0};
        }
        if (k < 16) {
            return new int[] {0, temper == 3 ? any(-9999, 9999) : below(8) - 2, 0, 0};
        }
        return k < 18 ? new int[] {1, below(3), 0, 0} : new int[] {2, below(2), 0, 0};
    }

    private void expression(List<int[]> tokens, int depth) {
        part(tokens, depth);
        int more = below(Math.max(0, depth) + 1);
        for (int k = 0; k < more; k++) {
            int w = below(12);
            tokens.add(word(w < 9 ? w : temper == 3 ? 2 + below(2) : below(4)));
            part(tokens, depth - 1);
        }
    }

    private void part(List<int[]> tokens, int depth) {
        int k = below(12);
        if (depth <= 0 || k < 6) {
            tokens.add(operand());
        } else if (k < 7) {
            tokens.add(word(1));
            part(tokens, depth - 1);
        } else if (k < 8) {
            tokens.add(word(9));
            expression(tokens, depth - 1);
            tokens.add(word(10));
        } else {
            function(tokens, depth - 1);
        }
    }

    private void function(List<int[]> tokens, int depth) {
        int w = 12 + below(9);
        tokens.add(word(w));
        tokens.add(word(9));
        String kinds = Model.Parser.arguments(w);
        for (int k = 0; k < kinds.length(); k++) {
            if (k > 0) {
                tokens.add(word(11));
            }
            if (kinds.charAt(k) == 'x') {
                expression(tokens, depth - 1);
            } else {
                tokens.add(areaToken());
            }
        }
        tokens.add(word(10));
    }
}
