/** Promises 24 to 28: the formula, what is shown, what is of a PLACE, what it reads, and why. */
public final class PlacesTest {
    public static void main(String[] args) {
        formulas();
        rounded();
        kinds();
        hanging();
        reckonedOnes();
        reading();
        reasons();
        wrongPlaces();
        Check.end();
    }

    private static void formulas() {
        Sheetengine x = new Sheetengine();
        Check.due("of an empty place", x.formula(0), "");
        x.number(0, 4, 6);
        x.text(1, 7);
        x.truth(2, true);
        Check.due("of constants", x.formula(0) + x.formula(1) + x.formula(2), "2/3w7true");
        Check.enter(x, "d0", "$a0+1:a$0*-5");
        Check.due("of a formula", x.formula(3), "=$a0+1:a$0*-5");
        Check.enter(x, "1:d0", "sum(1:a$0..b$3)+count($a$0..$b$3)&1:c3&w5");
        Check.due("in the sheet 1", x.formula(243), "=sum(a$0..b$3)+count(0:$a$0..$b$3)&c3&w5");
        x.token(4, Check.at("1:b3"), Check.at("1:a0"), 1);
        Check.due("input() is as in the sheet 0", x.input(), "1:a$0..b$3");
    }

    private static void shown(Sheetengine x, int top, int bottom, String... due) {
        x.number(0, top, bottom);
        for (int digits = 0; digits <= 3; digits++) {
            x.form(0, digits);
            Check.due(top + "/" + bottom + " with " + digits + " digits", x.shown(0), due[digits]);
        }
    }

    private static void rounded() {
        Sheetengine x = new Sheetengine();
        Check.due("shown of an empty place", x.shown(5), "");
        x.form(5, 2);
        Check.due("shown of an empty place with a form", x.shown(5), "");
        x.text(5, 3);
        Check.due("shown of a text", x.shown(5), "w3");
        x.truth(5, false);
        Check.due("shown of a truth", x.shown(5), "false");
        Check.enter(x, "f0", "1/0");
        Check.due("shown of a fault", x.shown(5), "#zero");
        Check.enter(x, "f0", "1/3");
        Check.due("shown of a formula", x.shown(5), "0.33");
        x.form(5, -1);
        Check.due("shown without a form", x.shown(5), "1/3");
        shown(x, 5, 1, "5", "5.0", "5.00", "5.000");
        shown(x, 0, 1, "0", "0.0", "0.00", "0.000");
        shown(x, 2, 3, "1", "0.7", "0.67", "0.667");
        shown(x, -2, 3, "-1", "-0.7", "-0.67", "-0.667");
        shown(x, 1, 2, "1", "0.5", "0.50", "0.500");
        shown(x, -1, 2, "-1", "-0.5", "-0.50", "-0.500");
        shown(x, 1, 20, "0", "0.1", "0.05", "0.050");
        shown(x, -1, 20, "0", "-0.1", "-0.05", "-0.050");
        shown(x, -1, 21, "0", "0.0", "-0.05", "-0.048");
        shown(x, 1, 200, "0", "0.0", "0.01", "0.005");
        shown(x, -1, 999, "0", "0.0", "0.00", "-0.001");
        shown(x, 999999, 1, "999999", "999999.0", "999999.00", "999999.000");
        shown(x, 999999, 100, "10000", "10000.0", "9999.99", "9999.990");
        shown(x, -19, 20, "-1", "-1.0", "-0.95", "-0.950");
        shown(x, 2499, 5 * 199, "3", "2.5", "2.51", "2.512");
        Check.enter(x, "b0", "9999*9999*9999*9999*9999*9999*9999/8");
        x.form(1, 3);
        Check.due("long", x.shown(1), "1249125262456254374737508749.875");
        Check.enter(x, "b0", "-(9999*9999*9999+1/1000+1/2000)");
        Check.due("half away from 0", x.shown(1), "-999700029999.002");
        Check.due("the value is not rounded", x.value(1), "-1999400059998003/2000");
    }

    private static void kinds() {
        Sheetengine x = new Sheetengine();
        x.number(0, 1, 1);
        x.text(1, 1);
        x.truth(2, true);
        Check.enter(x, "d0", "1/0");
        Check.enter(x, "e0", "a0&b0");
        int[] kinds = {1, 2, 3, 4, 2, 0};
        int[] formulas = {0, 0, 0, 1, 1, 0};
        for (int k = 0; k < 6; k++) {
            Check.due("kind of " + k, x.ofPlace(k, 0), kinds[k]);
            Check.due("formula at " + k, x.ofPlace(k, 1), formulas[k]);
            Check.due("on a ring " + k, x.ofPlace(k, 3), 0);
        }
        x.guard(5, true);
        x.form(5, 0);
        Check.due("guarded", x.ofPlace(5, 7) + x.ofPlace(4, 7), 1);
        Check.due("form", x.ofPlace(5, 8) + " " + x.ofPlace(4, 8), "0 -1");
    }

    private static void hanging() {
        Sheetengine x = new Sheetengine();
        Check.enter(x, "b0", "a0+c5");
        Check.enter(x, "c0", "b0*b0+sum(a0..b0)");
        Check.enter(x, "d0", "c0");
        Check.enter(x, "e0", "3");
        int[] levels = {0, 0, 1, 2, 0, 0};
        int[] reads = {0, 0, 1, 1, 0, 0};
        int[] readers = {2, 1, 1, 0, 0, 0};
        int[] hangers = {3, 2, 1, 0, 0, 0};
        for (int k = 0; k < 6; k++) {
            Check.due("level of " + k, x.ofPlace(k, 2), levels[k]);
            Check.due("how many it reads " + k, x.ofPlace(k, 4), reads[k]);
            Check.due("how many read it " + k, x.ofPlace(k, 5), readers[k]);
            Check.due("how many hang on it " + k, x.ofPlace(k, 6), hangers[k]);
        }
        x.number(0, 1, 1);
        Check.due("levels with a cell more", x.ofPlace(0, 2) + "" + x.ofPlace(1, 2) + x.ofPlace(2, 2) + x.ofPlace(3, 2), "0123");
        Check.due("read with a cell more", x.ofPlace(1, 4) + "" + x.ofPlace(2, 4), "12");
        Check.enter(x, "a0", "d0");
        for (int k = 0; k < 4; k++) {
            Check.due("on a ring " + k, x.ofPlace(k, 3), 1);
            Check.due("level on a ring " + k, x.ofPlace(k, 2), -1);
            Check.due("all hang on " + k, x.ofPlace(k, 6), 4);
        }
        Check.enter(x, "e0", "isfault(d0)");
        Check.due("hangs on a ring", x.ofPlace(4, 3) + " " + x.ofPlace(4, 2) + " " + x.value(4), "0 -1 #ring");
        Check.due("five hang on it", x.ofPlace(3, 6), 5);
        Check.enter(x, "f0", "count(n2)");
        x.name(2, Check.at("e0"), Check.at("h9"));
        Check.due("by a name", x.ofPlace(5, 3) + " " + x.ofPlace(5, 4) + " " + x.ofPlace(4, 5), "1 2 1");
    }

    private static void reckonedOnes() {
        Sheetengine x = new Sheetengine();
        Check.enter(x, "b0", "a0*0");
        Check.enter(x, "c0", "b0");
        Check.enter(x, "d0", "a0");
        Check.enter(x, "e0", "e0+a0");
        x.number(0, 4, 1);
        Check.due("reckoned", "" + x.ofPlace(0, 9) + x.ofPlace(1, 9) + x.ofPlace(2, 9) + x.ofPlace(3, 9) + x.ofPlace(4, 9)
                + x.ofPlace(5, 9), "010100");
        x.name(0, 0, 0);
        Check.due("all but the ring", x.reckoned(), "1 2 3");
        x.undo();
        Check.due("by undoing", "" + x.ofPlace(0, 9) + x.ofPlace(1, 9) + x.ofPlace(2, 9) + x.ofPlace(3, 9) + x.ofPlace(4, 9), "01110");
    }

    private static void reading() {
        Sheetengine x = new Sheetengine();
        x.number(Check.at("1:a0"), 1, 1);
        x.number(Check.at("b2"), 1, 1);
        x.number(Check.at("a1"), 1, 1);
        Check.enter(x, "c0", "1:a0+sum(a0..b2)+b2+h29");
        Check.enter(x, "a0", "if(true,1,c0)&b2");
        Check.enter(x, "1:h29", "b2");
        Check.due("what it reads", x.reads(Check.at("c0"), false), "0 8 17 240");
        Check.due("what reads it", x.reads(Check.at("b2"), true), "0 2 479");
        Check.due("what reads an empty place", x.reads(Check.at("h29"), true), "2");
        Check.due("what reads an empty place in an area", x.reads(Check.at("b1"), true), "2");
        Check.due("what an empty place reads", x.reads(Check.at("b1"), false), "");
        Check.due("what a constant reads", x.reads(Check.at("b2"), false), "");
        Check.due("none", x.reads(Check.at("1:h29"), true), "");
        Check.enter(x, "a3", "a3");
        Check.due("itself", x.reads(Check.at("a3"), false) + x.reads(Check.at("a3"), true), "2424");
    }

    private static void reasons() {
        Sheetengine x = new Sheetengine();
        Check.due("of an empty place", x.why(0), " = ");
        x.number(0, 5, 10);
        Check.due("of a constant", x.why(0), "1/2 = 1/2");
        x.text(Check.at("1:b0"), 4);
        Check.enter(x, "c0", "a0&1:b0&a5");
        Check.due("of a formula", x.why(2), "=a0&1:b0&a5 = 1/2w4; 0:1/2; 241:w4");
        Check.enter(x, "a5", "1/0");
        Check.due("with a fault", x.why(2), "=a0&1:b0&a5 = #zero; 0:1/2; 40:#zero; 241:w4");
        Check.enter(x, "a5", "c0");
        Check.due("on a ring", x.why(40), "=c0 = #ring; 2:#ring");
        Check.enter(x, "d0", "f9");
        Check.due("what is empty is not told", x.why(3), "=f9 = 0");
    }

    private static void wrongPlaces() {
        Sheetengine x = new Sheetengine();
        for (int place : new int[] {-1, 480, Integer.MIN_VALUE, Integer.MAX_VALUE}) {
            Check.badArgument("formula(" + place + ")", () -> x.formula(place));
            Check.badArgument("shown(" + place + ")", () -> x.shown(place));
            Check.badArgument("ofPlace(" + place + ", 0)", () -> x.ofPlace(place, 0));
            Check.badArgument("reads(" + place + ", true)", () -> x.reads(place, true));
            Check.badArgument("reads(" + place + ", false)", () -> x.reads(place, false));
            Check.badArgument("why(" + place + ")", () -> x.why(place));
        }
        Check.badArgument("ofPlace(0, -1)", () -> x.ofPlace(0, -1));
        Check.badArgument("ofPlace(0, 10)", () -> x.ofPlace(0, 10));
    }
}
