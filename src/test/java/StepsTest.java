/** Promises 11 to 16, 18 and 19: names, rows and columns, guards, bounds and forms, undoing and doing again. */
public final class StepsTest {
    public static void main(String[] args) {
        names();
        wrongNames();
        puttingIn();
        puttingInRefused();
        takingOut();
        takingOutRefused();
        lines();
        guards();
        bounds();
        forms();
        undoing();
        redoing();
        Check.end();
    }

    private static void names() {
        Sheetengine x = new Sheetengine();
        x.number(0, 2, 1);
        x.number(1, 3, 1);
        Check.enter(x, "c0", "sum(n0)");
        Check.due("a name that is not told", x.value(2), "#name");
        Check.due("name, new", x.name(0, 1, 0), 0);
        Check.due("value", x.value(2), "5");
        Check.due("reckoned are all formulas", x.reckoned(), "2");
        Check.due("name, again", x.name(0, 0, 0), 1);
        Check.due("value", x.value(2), "2");
        Check.enter(x, "d0", "1+1");
        Check.due("name, the same", x.name(0, 0, 0), 1);
        Check.due("every place is written", x.reckoned(), "2 3");
        Check.due("name with a ring", x.name(0, 2, 0), 1);
        Check.due("value", x.value(2), "#ring");
        Check.due("on a ring", x.ofPlace(2, 3), 1);
        Check.due("without the ring", x.reckoned(), "3");
        Check.due("name of the other sheet", x.name(5, 240, 479), 0);
        Check.due("house(5)", x.house(5), 2);
        Check.due("name, no more", x.name(0, -1, 999), 1);
        Check.due("value", x.value(2), "#name");
        Check.due("name, no more again", x.name(0, -1, -5), 0);
        Check.due("house(5)", x.house(5), 1);
        x.undo();
        x.undo();
        Check.due("undone", x.value(2) + x.house(5), "#ring2");
    }

    private static void wrongNames() {
        Sheetengine x = new Sheetengine();
        int[][] wrong = {{-1, 0, 0}, {6, 0, 0}, {0, -2, 0}, {0, 480, 0}, {0, 0, -1}, {0, 0, 480}, {0, 239, 240}, {6, -1, 0}};
        for (int[] w : wrong) {
            Check.badArgument("name(" + w[0] + ", " + w[1] + ", " + w[2] + ")", () -> x.name(w[0], w[1], w[2]));
        }
        Check.due("nothing changed", x.house(7), 0);
    }

    private static void puttingIn() {
        Sheetengine x = new Sheetengine();
        x.number(Check.at("a2"), 7, 1);
        x.number(Check.at("a4"), 8, 1);
        Check.enter(x, "b1", "a1+a2+a$4+sum(a0..a1)+sum(a2..a4)+sum(a1..a3)+1:a2+count(n0)");
        x.name(0, Check.at("a1"), Check.at("a2"));
        x.name(1, Check.at("1:a2"), Check.at("1:a2"));
        Check.enter(x, "1:c5", "a2&1:a2&$a$3");
        x.guard(Check.at("c1"), true);
        x.guard(Check.at("c2"), true);
        x.bound(Check.at("c2"), 0, 5);
        x.form(Check.at("c2"), 2);
        Check.due("putIn of a row", x.putIn(0, false, 2), 2);
        Check.due("formula", x.formula(Check.at("b1")), "=a1+a3+a$5+sum(a0..a1)+sum(a3..a5)+sum(a1..a4)+1:a2+count(n0)");
        Check.due("formula of the other sheet", x.formula(Check.at("1:c5")), "=0:a3&a2&0:$a$4");
        Check.due("values move", x.value(Check.at("a3")) + x.value(Check.at("a5")) + x.value(Check.at("a2")), "78");
        Check.due("guards", x.ofPlace(Check.at("c1"), 7) + "" + x.ofPlace(Check.at("c2"), 7) + x.ofPlace(Check.at("c3"), 7), "101");
        Check.due("forms", x.ofPlace(Check.at("c2"), 8) + " " + x.ofPlace(Check.at("c3"), 8), "-1 2");
        x.guard(Check.at("c3"), false);
        Check.due("bounds", x.number(Check.at("c3"), 6, 1) + x.number(Check.at("c2"), 6, 1), -9);
        Check.enter(x, "d0", "sum(n0)");
        Check.due("names", x.reads(Check.at("d0"), false), "24");
        Check.due("reckoned", x.putIn(0, false, 29) + " " + x.reckoned(), "0 3 9 282");
        Check.due("putIn of a column", x.putIn(0, true, 1), 3);
        Check.due("columns move", x.formula(Check.at("c1")), "=a1+a3+a$5+sum(a0..a1)+sum(a3..a5)+sum(a1..a4)+1:a2+count(n0)");
        Check.due("the input is left", x.input(), "");
        Check.type(x, "a5");
        x.putIn(0, false, 0);
        x.takeOut(0, false, 5);
        x.undo();
        Check.due("the input is left", x.input(), "a5");
        int[][] wrong = {{-1, 0, 0}, {2, 0, 0}, {0, 0, -1}, {0, 0, 30}, {0, 1, -1}, {0, 1, 8}, {1, 1, 29}};
        for (int[] w : wrong) {
            Check.badArgument("putIn(" + w[0] + ", " + w[1] + ", " + w[2] + ")", () -> x.putIn(w[0], w[1] == 1, w[2]));
            Check.badArgument("takeOut(" + w[0] + ", " + w[1] + ", " + w[2] + ")", () -> x.takeOut(w[0], w[1] == 1, w[2]));
        }
    }

    private static void refusesIn(String what, Sheetengine x, int row, int column) {
        Check.due("putIn of a row, " + what, x.putIn(1, false, 0), row);
        Check.due("putIn of a column, " + what, x.putIn(1, true, 0), column);
        Check.due("putIn in the other sheet, " + what, x.putIn(0, false, 29) + x.putIn(0, true, 7), 0);
    }

    private static void puttingInRefused() {
        Sheetengine x = new Sheetengine();
        x.number(Check.at("1:b29"), 1, 1);
        refusesIn("a cell in the last row", x, -9, 1);
        x = new Sheetengine();
        x.guard(Check.at("1:h3"), true);
        refusesIn("a guard in the last column", x, 0, -9);
        x = new Sheetengine();
        x.bound(Check.at("1:h29"), 0, 0);
        refusesIn("bounds in the last corner", x, -9, -9);
        x = new Sheetengine();
        x.form(Check.at("1:a29"), 0);
        refusesIn("a form in the last row", x, -9, 0);
        x = new Sheetengine();
        x.name(3, Check.at("1:b3"), Check.at("1:h5"));
        refusesIn("a name to the last column", x, 0, -9);
        x = new Sheetengine();
        x.name(0, Check.at("1:b29"), Check.at("1:b29"));
        refusesIn("the first name in the last row", x, -9, 0);
        x.name(0, -1, 0);
        refusesIn("a name that is told no more", x, 0, 0);
        x = new Sheetengine();
        Check.enter(x, "a0", "1:b29");
        x.clear(0);
        refusesIn("a formula that was cleared", x, 0, 0);
        Check.enter(x, "a0", "-1:b29");
        Check.enter(x, "a0", "5");
        refusesIn("a formula that was written over", x, 0, 0);
        x = new Sheetengine();
        Check.enter(x, "a0", "1:b29");
        refusesIn("a place in the last row", x, -9, 0);
        x = new Sheetengine();
        Check.enter(x, "a0", "if(true,1,sum(1:b1..h2))");
        refusesIn("a corner in the last column", x, 0, -9);
        x = new Sheetengine();
        Check.enter(x, "1:a0", "1:$h$29&b0");
        refusesIn("a held place of its own", x, -9, -9);
        x = new Sheetengine();
        Check.enter(x, "1:b0", "1:a28");
        x.fill(Check.at("1:b0"), Check.at("1:b2"), Check.at("1:b2"));
        refusesIn("what is gone reaches nothing, it is at b2 =" + x.formula(Check.at("1:b2")), x, 2, 2);
        x = new Sheetengine();
        x.bound(Check.at("1:h29"), 1, 0);
        x.guard(Check.at("1:h29"), false);
        x.form(Check.at("1:h29"), -1);
        refusesIn("nothing in the last corner", x, 0, 0);
    }

    private static void takingOut() {
        Sheetengine x = new Sheetengine();
        x.number(Check.at("a2"), 7, 1);
        x.number(Check.at("a4"), 8, 1);
        x.number(Check.at("b2"), 9, 1);
        Check.enter(x, "b1", "a1&a2&a$4&sum(a2..b2)&sum(a2..a4)&sum(a0..a2)&sum(a1..a3)&a29");
        Check.enter(x, "1:c2", "a3&1:a3&$a$2");
        x.name(0, Check.at("a2"), Check.at("h2"));
        x.name(1, Check.at("b1"), Check.at("b2"));
        x.name(2, Check.at("1:a2"), Check.at("1:h2"));
        x.bound(Check.at("a2"), 0, 9);
        x.form(Check.at("a3"), 1);
        x.guard(Check.at("a3"), true);
        Check.due("takeOut of a row", x.takeOut(0, false, 2), 2);
        Check.due("formula", x.formula(Check.at("b1")), "=a1&gone&a$3&sum(gone)&sum(a2..a3)&sum(a0..a1)&sum(a1..a2)&a28");
        Check.due("value", x.value(Check.at("b1")), "#gone");
        Check.due("formula of the other sheet", x.formula(Check.at("1:c2")), "=0:a2&a3&gone");
        Check.due("a name is gone", x.house(5), 2);
        Check.due("the form came", x.ofPlace(Check.at("a2"), 8) + x.ofPlace(Check.at("a3"), 8), 0);
        Check.due("the guard came", x.ofPlace(Check.at("a2"), 7) - x.ofPlace(Check.at("a3"), 7), 1);
        x.guard(Check.at("a2"), false);
        Check.due("bounds went", x.number(Check.at("a2"), 10, 1), 2);
        Check.enter(x, "c0", "sum(n0)");
        Check.due("value", x.value(Check.at("c0")), "#name");
        Check.enter(x, "c0", "count(n1)");
        Check.due("what the name is of", x.reads(Check.at("c0"), false), "9");
        Check.due("takeOut of a column", x.takeOut(0, true, 0), 2);
        Check.due("formula", x.formula(Check.at("a1")), "=gone&gone&gone&sum(gone)&sum(gone)&sum(gone)&sum(gone)&gone");
        Check.due("takeOut of an empty row", x.takeOut(1, false, 29), 0);
        Check.due("a change all the same, all reckoned", x.reckoned(), "1 8 258");
        x.undo();
        x.undo();
        Check.due("undone", x.formula(Check.at("b1")), "=a1&gone&a$3&sum(gone)&sum(a2..a3)&sum(a0..a1)&sum(a1..a2)&a28");
    }

    private static void takingOutRefused() {
        Sheetengine x = new Sheetengine();
        x.guard(Check.at("1:c5"), true);
        x.number(Check.at("1:c5"), 1, 1);
        Check.due("a guard in the row", x.takeOut(1, false, 5), -9);
        Check.due("a guard in the column", x.takeOut(1, true, 2), -9);
        Check.due("other row", x.takeOut(1, false, 4), 0);
        Check.due("other column", x.takeOut(1, true, 3), 0);
        Check.due("other sheet", x.takeOut(0, false, 5) + x.takeOut(0, true, 2), 0);
        Check.due("it came up", x.takeOut(1, false, 4), -9);
        x.guard(Check.at("1:c4"), false);
        Check.due("no more guarded", x.takeOut(1, false, 4), 0);
    }

    /** The last and the first line. */
    private static void lines() {
        Sheetengine x = new Sheetengine();
        x.number(Check.at("h29"), 5, 1);
        Check.enter(x, "a0", "h29+sum(g28..h29)+sum(h29..h29)");
        Check.due("value", x.value(0), "15");
        Check.due("takeOut of the last row", x.takeOut(0, false, 29), 1);
        Check.due("formula", x.formula(0), "=gone+sum(g28..h28)+sum(gone)");
        Check.due("takeOut of the first column", x.takeOut(0, true, 0), 1);
        Check.due("none left", x.house(0), 0);
        x.undo();
        Check.due("putIn of the first column", x.putIn(0, true, 0), -9);
        Check.enter(x, "a0", "g28");
        Check.due("putIn of the first column", x.putIn(0, true, 0), 1);
        Check.due("formula", x.formula(1), "=h28");
        Check.due("putIn of the first row", x.putIn(0, false, 0), 1);
        Check.due("formula", x.formula(9), "=h29");
        Check.due("putIn behind all", x.putIn(0, false, 29), -9);
    }

    private static void guards() {
        Sheetengine x = new Sheetengine();
        Check.due("guard, new", x.guard(7, true), 0);
        Check.due("guard, again", x.guard(7, true), 1);
        Check.due("ofPlace", x.ofPlace(7, 7), 1);
        Check.due("house(6)", x.house(6), 1);
        Check.due("guard, no more", x.guard(7, false), 1);
        Check.due("guard, no more again", x.guard(7, false), 0);
        Check.due("house(6)", x.house(6), 0);
        Check.due("changes", x.house(7), 4);
        Check.badArgument("guard(-1)", () -> x.guard(-1, true));
        Check.badArgument("guard(480)", () -> x.guard(480, true));
        Check.enter(x, "a0", "1");
        Check.enter(x, "b0", "a0");
        x.guard(479, true);
        Check.due("none is reckoned", x.reckoned(), "");
        Check.due("what reads what stays", x.reads(1, false) + x.ofPlace(0, 6) + x.ofPlace(1, 2), "011");
        x.guard(0, true);
        Check.due("a guard in the first place", x.takeOut(0, false, 0) + x.takeOut(0, true, 0), -18);
        x.guard(0, false);
        Check.due("house(6)", x.house(6), 1);
    }

    private static void bounds() {
        Sheetengine x = new Sheetengine();
        x.number(0, 50, 1);
        Check.due("bound, new", x.bound(0, -5, 5), 0);
        Check.due("what stands there stays", x.value(0), "50");
        Check.due("bound, again", x.bound(0, 3, 3), 1);
        Check.due("beyond", x.number(0, 4, 1), -9);
        Check.due("within", x.number(0, 3, 1), 0);
        Check.due("bound, no more", x.bound(0, 4, 3), 1);
        Check.due("bound, no more again", x.bound(0, Integer.MAX_VALUE, Integer.MIN_VALUE), 0);
        Check.due("free", x.number(0, 4, 1), 0);
        x.bound(0, Integer.MIN_VALUE, Integer.MAX_VALUE);
        Check.due("within the widest", x.number(0, 999999, 1) + x.number(0, -999999, 1), 0);
        x.bound(0, Integer.MAX_VALUE, Integer.MAX_VALUE);
        Check.due("below the highest", x.number(0, 999999, 1), -9);
        x.bound(0, Integer.MIN_VALUE, Integer.MIN_VALUE);
        Check.due("above the lowest", x.number(0, -999999, 1), -9);
        Check.due("clear has no bounds", x.clear(0), 0);
        Check.badArgument("bound(-1)", () -> x.bound(-1, 0, 0));
        Check.badArgument("bound(480)", () -> x.bound(480, 0, 0));
        Check.enter(x, "a0", "7");
        x.bound(1, 0, 0);
        Check.due("none is reckoned", x.reckoned(), "");
    }

    private static void forms() {
        Sheetengine x = new Sheetengine();
        Check.due("form, new", x.form(0, 3), -1);
        Check.due("form, other", x.form(0, 0), 3);
        Check.due("form, no more", x.form(0, -1), 0);
        Check.due("form, no more again", x.form(0, -1), -1);
        Check.due("changes", x.house(7), 4);
        Check.badArgument("form(-1)", () -> x.form(-1, 0));
        Check.badArgument("form(480)", () -> x.form(480, 0));
        Check.badArgument("form -2", () -> x.form(0, -2));
        Check.badArgument("form 4", () -> x.form(0, 4));
        Check.enter(x, "a0", "7");
        x.form(1, 0);
        Check.due("none is reckoned", x.reckoned(), "");
    }

    private static void undoing() {
        Sheetengine x = new Sheetengine();
        for (int k = 1; k <= 12; k++) {
            x.number(0, k, 1);
            Check.due("can be undone", x.house(7), Math.min(k, 10));
        }
        Check.enter(x, "b0", "a0*2");
        for (int k = 9; k >= 0; k--) {
            Check.due("undo", x.undo(), k);
            Check.due("value", x.value(0), "" + (k + 3));
            Check.due("the formula is gone", x.value(1), "");
        }
        Check.badState("undo of the oldest", x::undo);
        Check.due("value", x.value(0), "3");
        Check.due("can be done again", x.house(8), 10);
    }

    private static void redoing() {
        Sheetengine x = new Sheetengine();
        Check.enter(x, "b0", "a0+1");
        x.number(0, 5, 1);
        x.guard(0, true);
        x.form(1, 2);
        x.bound(1, 3, 4);
        for (int k = 4; k >= 1; k--) {
            x.undo();
        }
        Check.due("undone", x.value(1) + x.shown(1) + x.ofPlace(0, 7), "110");
        Check.due("reckoned by undoing", x.reckoned(), "1");
        Check.due("redo", x.redo(), 3);
        Check.due("value", x.value(1), "6");
        Check.due("reckoned by doing again", x.reckoned(), "1");
        Check.due("redo", x.redo(), 2);
        Check.due("guarded", x.number(0, 1, 1), -9);
        Check.due("a refusal ends nothing", x.house(8), 2);
        Check.due("nor does a slip", x.enter(2), 0);
        Check.due("nor a question", x.whatIf(0, 1, 0, 1, 1) + x.house(8), "12");
        Check.due("redo", x.redo(), 1);
        Check.due("shown", x.shown(1), "6.00");
        Check.due("undo between", x.undo(), 3);
        Check.due("redo", x.redo() + x.redo(), 1);
        Check.badState("redo of none", x::redo);
        x.undo();
        x.undo();
        Check.due("another change", x.text(9, 1), 0);
        Check.due("ends what can be done again", x.house(8), 0);
        Check.badState("redo of none", x::redo);
        Check.due("undoable", x.house(7), 4);
    }
}
