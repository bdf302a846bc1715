/** Two objects that are made alike: what one of them was called with more must not be seen, or just what is due. */
final class Twin {
    private static final String[] LOOKED_AT = {"a0", "b0", "c0", "e0", "g0", "h0", "a1", "b1", "c2", "d2", "1:a0", "1:b0"};

    private Twin() {
    }

    interface Made {
        Sheetengine made();
    }

    interface Act {
        Object on(Sheetengine x);
    }

    interface Numbered {
        Object on(Sheetengine x, int number);
    }

    /** Something of everything: some can be undone and done again, a name, a ring, a guard, bounds, a form, an INPUT. */
    static Sheetengine scene() {
        Sheetengine x = new Sheetengine();
        x.number(Check.at("a0"), 1, 2);
        x.number(Check.at("b0"), 5, 2);
        x.text(Check.at("c0"), 7);
        x.number(Check.at("1:a0"), 3, 1);
        type(x, "e0", "a0*2+$b$0");
        type(x, "a1", "sum(a0..b0)&1:b0");
        type(x, "g0", "h0");
        type(x, "h0", "g0+a0");
        x.name(2, Check.at("b0"), Check.at("a0"));
        type(x, "b1", "count(n2)/0");
        type(x, "1:b0", "a0+1:a0");
        x.guard(Check.at("c2"), true);
        x.bound(Check.at("d2"), -3, 3);
        x.form(Check.at("a0"), 2);
        x.guard(Check.at("b0"), true);
        x.truth(Check.at("d2"), true);
        x.putIn(1, false, 5);
        x.undo();
        x.undo();
        x.knock();
        Check.type(x, "a0+(");
        return x;
    }

    /** 60 CELLS, of which a0 to g7 reach over 8 columns and 7 rows, then a7 to d7; e7 is GUARDED, f7 has BOUNDS. */
    static Sheetengine full() {
        Sheetengine x = new Sheetengine();
        x.number(Check.at("a0"), 1, 1);
        x.fill(Check.at("a0"), Check.at("a0"), Check.at("h6"));
        x.fill(Check.at("a0"), Check.at("a7"), Check.at("d7"));
        x.guard(Check.at("e7"), true);
        x.bound(Check.at("f7"), 5, 6);
        x.truth(Check.at("b0"), true);
        x.undo();
        Check.type(x, "1+2");
        return x;
    }

    static void type(Sheetengine x, String place, String formula) {
        Check.type(x, formula);
        x.enter(Check.at(place));
    }

    /** An answer as a text, or the exception behind "throws.". */
    static String answer(Sheetengine x, Act act) {
        try {
            return String.valueOf(act.on(x));
        } catch (IllegalArgumentException | IllegalStateException e) {
            return "throws." + e.getClass().getSimpleName();
        } catch (RuntimeException e) {
            return "the machine: " + e;
        }
    }

    /** A call that is answered so, and leaves all as it is: what can be asked, undone and done again. */
    static void leaves(String what, Made made, Act act, Object due) {
        Sheetengine x = made.made();
        Sheetengine y = made.made();
        Check.due(what, answer(x, act), String.valueOf(due));
        same(what + " leaves what can be asked", told(x), told(y));
        same(what + " leaves what can be undone", steps(x, true), steps(y, true));
        same(what + " leaves what can be done again", steps(x, false), steps(y, false));
        same(what + " leaves bounds and names", probed(x), probed(y));
    }

    static void refused(String what, Made made, Act act) {
        leaves(what, made, act, "-9");
    }

    static void badArgument(String what, Made made, Act act) {
        leaves(what, made, act, "throws.IllegalArgumentException");
    }

    static void badState(String what, Made made, Act act) {
        leaves(what, made, act, "throws.IllegalStateException");
    }

    /** The least and the greatest number may be, those beside them and far off may not. */
    static void within(String what, int least, int greatest, Made made, Numbered call) {
        may(what, made, call, least, greatest);
        mayNot(what, made, call, least - 1, greatest + 1, Integer.MIN_VALUE, Integer.MAX_VALUE);
    }

    static void may(String what, Made made, Numbered call, int... numbers) {
        for (int number : numbers) {
            String answer = answer(made.made(), x -> call.on(x, number));
            Check.due(what + " " + number + " may be", answer.startsWith("throws.") || answer.startsWith("the machine"), false);
        }
    }

    static void mayNot(String what, Made made, Numbered call, int... numbers) {
        for (int number : numbers) {
            badArgument(what + " " + number, made, x -> call.on(x, number));
        }
    }

    /** A CHANGE: it is one more that can be undone, ends what can be done again, and tells such formulas as RECKONED. */
    static void change(String what, Made made, Act act, Object due, String reckoned) {
        Sheetengine x = made.made();
        Sheetengine y = made.made();
        int undoable = Math.min(10, x.house(7) + 1);
        Check.due(what, answer(x, act), String.valueOf(due));
        Check.due(what + ": what can be undone", x.house(7), undoable);
        Check.due(what + ": what can be done again", x.house(8), 0);
        Check.due(what + ": what was reckoned", x.reckoned(), reckoned);
        String after = state(x);
        x.undo();
        same(what + ", undone", state(x), state(y));
        x.redo();
        same(what + ", done again", state(x), after);
    }

    /** All that can be asked, in some 90 calls. */
    static String told(Sheetengine x) {
        StringBuilder all = new StringBuilder(state(x));
        for (int what = 5; what <= 9; what++) {
            all.append("house ").append(what).append(": ").append(x.house(what)).append('\n');
        }
        all.append("input ").append(x.input()).append('\n').append("slip ").append(x.slip()).append('\n');
        all.append("reckoned ").append(x.reckoned()).append('\n').append("digest ").append(x.digest()).append('\n');
        return all.toString();
    }

    /** What stands in both SHEETS, but not what was done last. */
    static String state(Sheetengine x) {
        StringBuilder all = new StringBuilder();
        for (int what = 0; what <= 6; what++) {
            all.append("house ").append(what).append(": ").append(x.house(what)).append('\n');
        }
        for (String place : LOOKED_AT) {
            int p = Check.at(place);
            all.append(place).append(": ").append(x.why(p)).append(", shown ").append(x.shown(p));
            all.append(", level ").append(x.ofPlace(p, 2)).append(", guarded ").append(x.ofPlace(p, 7));
            all.append(", form ").append(x.ofPlace(p, 8)).append('\n');
        }
        return all.toString();
    }

    private static String steps(Sheetengine x, boolean isBack) {
        StringBuilder all = new StringBuilder();
        for (int k = 0; k < 10 && x.house(isBack ? 7 : 8) > 0; k++) {
            all.append(isBack ? x.undo() : x.redo()).append(": ").append(x.reckoned()).append(' ');
            all.append(x.digest()).append('\n');
            for (int p = 0; p < LOOKED_AT.length; p += 2) {
                all.append(x.formula(Check.at(LOOKED_AT[p]))).append('\n');
            }
        }
        return all.toString();
    }

    /** BOUNDS and names can be asked only by changing them, so this comes last. */
    private static String probed(Sheetengine x) {
        StringBuilder all = new StringBuilder();
        for (String place : LOOKED_AT) {
            all.append(place).append(" had bounds: ").append(x.bound(Check.at(place), 1, 0)).append('\n');
        }
        for (int name = 0; name <= 5; name++) {
            all.append("name ").append(name).append(" was told: ").append(x.name(name, -1, 0)).append('\n');
        }
        return all.toString();
    }

    static void same(String what, String got, String want) {
        String[] a = got.split("\n");
        String[] b = want.split("\n");
        for (int k = 0; k < Math.max(a.length, b.length); k++) {
            String mine = k < a.length ? a[k] : "nothing";
            String due = k < b.length ? b[k] : "nothing";
            if (!mine.equals(due)) {
                Check.due(what + ", line " + k, mine, due);
                return;
            }
        }
        Check.due(what, got, want);
    }
}
