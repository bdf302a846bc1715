/**
 * "-9 (REFUSED) is told, where a call is LET, but can not be done; then nothing changes": each way to be refused,
 * and beside it the nearest call that is done. SLIPS and questions, that change nothing either.
 */
public final class RefusalsTest {
    public static void main(String[] args) {
        guarded();
        beyondBounds();
        fills();
        fillsBeyondCells();
        goingOnFromNothing();
        goingOnBeyondSheet();
        goingOnRefused();
        goingOnBeyondCells();
        puttingIn();
        takingOut();
        goals();
        slips();
        questions();
        Check.end();
    }

    private static int at(String place) {
        return Check.at(place);
    }

    /** A GUARDED PLACE in the scene: c2 is EMPTY, b0 has a CELL. */
    private static void guarded() {
        for (String place : new String[] {"c2", "b0"}) {
            int p = at(place);
            Twin.refused("number, guarded " + place, Twin::scene, x -> x.number(p, 5, 2));
            Twin.refused("text, guarded " + place, Twin::scene, x -> x.text(p, 0));
            Twin.refused("truth, guarded " + place, Twin::scene, x -> x.truth(p, true));
            Twin.refused("clear, guarded " + place, Twin::scene, x -> x.clear(p));
            Twin.refused("enter, guarded " + place, RefusalsTest::withFormula, x -> x.enter(p));
            Twin.refused("fill, guarded " + place, Twin::scene, x -> x.fill(0, p, p));
            Twin.refused("fill with nothing, guarded " + place, Twin::scene, x -> x.fill(at("h9"), p, p));
            Twin.refused("goal, guarded " + place, Twin::scene, x -> x.goal(p, p, 5, 2));
        }
        Sheetengine x = Twin.scene();
        x.guard(at("c2"), false);
        x.guard(at("b0"), false);
        Check.due("no more guarded", x.number(at("c2"), 5, 2) + x.text(at("b0"), 0) + x.truth(at("b0"), true) + x.clear(at("b0")), 9);
        Check.due("a guarded place can be bounded, formed and named",
                Twin.scene().bound(at("b0"), 0, 1) + Twin.scene().form(at("b0"), 1) + Twin.scene().name(0, at("b0"), at("b0")), -1);
        Sheetengine y = Twin.scene();
        Check.due("a guarded place can be moved", y.putIn(0, false, 0) > 0 && y.ofPlace(at("b1"), 7) == 1, true);
        y.undo();
        y.undo();
        Check.due("a guarded place can be undone", y.redo() + y.value(at("b0")), "15/2");
    }

    private static Sheetengine withFormula() {
        Sheetengine x = Twin.scene();
        x.rub(2);
        return x;
    }

    /** d2 has the BOUNDS -3 and 3 in the scene. */
    private static void beyondBounds() {
        int p = at("d2");
        int[][] within = {{3, 1}, {-3, 1}, {0, 1}, {2999, 999}, {1, 999}, {-2996, 999}, {9, 3}};
        for (int[] w : within) {
            Check.due("number " + w[0] + "/" + w[1] + " within bounds", Twin.scene().number(p, w[0], w[1]) >= 0, w[0] != 2999);
        }
        int[][] beyond = {{4, 1}, {-4, 1}, {2998, 999}, {-2998, 999}, {999999, 1}, {-999999, 1}};
        for (int[] b : beyond) {
            Twin.refused("number " + b[0] + "/" + b[1] + " beyond bounds", Twin::scene, x -> x.number(p, b[0], b[1]));
            Twin.refused("goal " + b[0] + "/" + b[1] + " beyond bounds", Twin::scene, x -> x.goal(p, p, b[0], b[1]));
        }
        Check.due("goal within bounds", Twin.scene().goal(p, p, 3, 1) + Twin.scene().goal(p, p, -3, 1), "3-3");
        Check.due("bounds are of numbers", Twin.scene().text(p, 99) + Twin.scene().truth(p, true) + Twin.scene().clear(p), 0);
        Sheetengine x = Twin.scene();
        x.rub(30);
        Check.enter(x, "d2", "9*9");
        Check.due("bounds are of constants", x.value(p), "81");
        x.bound(p, 5, 5);
        Check.due("least and greatest may be one", x.number(p, 5, 1) + x.number(p, 4, 1) + x.number(p, 6, 1), -18);
        x.bound(p, 6, 5);
        Check.due("no bounds any more", x.number(p, 4, 1) + x.number(p, 7, 1), 0);
    }

    private static void fills() {
        Twin.refused("fill, the last one guarded", Twin::scene, x -> x.fill(at("a0"), at("a2"), at("c2")));
        Twin.refused("fill, the first one guarded", Twin::scene, x -> x.fill(at("a0"), at("c2"), at("d3")));
        Twin.refused("fill beyond bounds below", RefusalsTest::withFour, x -> x.fill(at("e1"), at("d2"), at("e2")));
        Twin.refused("fill beyond bounds above", RefusalsTest::withFour, x -> x.fill(at("e2"), at("d2"), at("d9")));
        Check.due("fill beside the guard", Twin.scene().fill(at("a0"), at("a2"), at("b3")), 4);
        Check.due("fill of its own guarded place", Twin.scene().fill(at("b0"), at("b0"), at("b0")), 0);
        Check.due("fill from a guarded place", Twin.scene().fill(at("b0"), at("b2"), at("b0")), 2);
        Check.due("fill within bounds", withFour().fill(at("e3"), at("d2"), at("d3")), 2);
        Check.due("fill of a text", Twin.scene().fill(at("c0"), at("d2"), at("d2")), 1);
        Check.due("fill of a formula", Twin.scene().fill(at("g0"), at("d2"), at("d2")), 1);
        Check.due("fill of nothing", Twin.scene().fill(at("h9"), at("d2"), at("d2")), 1);
        Sheetengine x = withFour();
        x.bound(at("e1"), 0, 0);
        Check.due("its own place is not given anything", x.fill(at("e1"), at("e1"), at("e2")), 1);
    }

    /** e1 -4, e2 4, e3 3. */
    private static Sheetengine withFour() {
        Sheetengine x = Twin.scene();
        x.number(at("e1"), -4, 1);
        x.number(at("e2"), 4, 1);
        x.number(at("e3"), 3, 1);
        x.undo();
        x.redo();
        return x;
    }

    /** The scene has 10 CELLS. */
    private static void fillsBeyondCells() {
        Check.due("cells", Twin.scene().house(0), 10);
        Check.due("fill to 59 cells", Twin.scene().fill(at("a0"), at("a5"), at("g11")), 49);
        Check.due("fill to 60 cells", Twin.scene().fill(at("a0"), at("a5"), at("e14")), 50);
        Check.due("fill to 60 cells, with its own and another", Twin.scene().fill(at("a1"), at("a1"), at("b26")), 51);
        Twin.refused("fill to 61 cells", Twin::scene, x -> x.fill(at("a0"), at("a5"), at("c21")));
        Twin.refused("fill to 61 cells, a formula", Twin::scene, x -> x.fill(at("e0"), at("a5"), at("c21")));
        Twin.refused("fill to all of a sheet", Twin::scene, x -> x.fill(at("1:a0"), 240, 479));
        Check.due("fill of 60 cells with 60", Twin.full().fill(0, at("a0"), at("h6")), 55);
        Twin.refused("fill to one more of 60 cells", Twin::full, x -> x.fill(0, at("1:h6") - 240, at("g7")));
        Check.due("fill over 60 cells with nothing", Twin.full().fill(at("h9"), at("a0"), at("h6")), 56);
        Check.due("fill of 239 places with nothing", new Sheetengine().fill(0, 0, 239), 239);
    }

    private static void goingOnFromNothing() {
        Twin.refused("goOn from two empty places", Twin::scene, x -> x.goOn(at("1:c5"), true, 1));
        Twin.refused("goOn, the second empty", Twin::scene, x -> x.goOn(at("1:a0"), true, 1));
        Twin.refused("goOn, the first empty", RefusalsTest::withFour, x -> x.goOn(at("e0") + 240, true, 1));
        Twin.refused("goOn, the second a text", Twin::scene, x -> x.goOn(at("b0"), false, 1));
        Twin.refused("goOn, the first a text", Twin::scene, x -> x.goOn(at("c0"), false, 1));
        Twin.refused("goOn, the second a formula", Twin::scene, x -> x.goOn(at("1:a0"), false, 1));
        Twin.refused("goOn, the first a formula", RefusalsTest::withFour, x -> x.goOn(at("e0"), true, 1));
        Twin.refused("goOn, both truths", RefusalsTest::withTruths, x -> x.goOn(at("1:c0"), true, 1));
        Twin.refused("goOn, rings", Twin::scene, x -> x.goOn(at("g0"), false, 1));
    }

    private static Sheetengine withTruths() {
        Sheetengine x = Twin.scene();
        x.truth(at("1:c0"), true);
        x.truth(at("1:c1"), false);
        return x;
    }

    /** 1 and 2 in the rows 0 and 1 and the columns 0 and 1 of the SHEET 0, and in the last rows and columns. */
    private static Sheetengine corners() {
        Sheetengine x = new Sheetengine();
        x.number(at("a0"), 1, 1);
        x.number(at("b0"), 2, 1);
        x.number(at("a1"), 2, 1);
        for (String place : new String[] {"g28", "g29", "h28", "h29", "h0"}) {
            x.number(at(place), 7, 1);
        }
        return x;
    }

    private static void goingOnBeyondSheet() {
        Check.due("goOn to the last row", corners().goOn(0, true, 28), "30");
        Check.due("goOn to the last column", corners().goOn(0, false, 6), "8");
        Twin.refused("goOn beyond the last column", RefusalsTest::corners, x -> x.goOn(0, false, 7));
        Twin.refused("goOn far beyond the last column", RefusalsTest::corners, x -> x.goOn(0, false, 28));
        Twin.refused("goOn from the first row, two too many", RefusalsTest::corners, x -> x.goOn(at("a1"), true, 28));
        Twin.refused("goOn, the second in the last row", RefusalsTest::corners, x -> x.goOn(at("g28"), true, 1));
        Twin.refused("goOn, the first in the last row", RefusalsTest::corners, x -> x.goOn(at("g29"), true, 1));
        Twin.refused("goOn, the second in the last column", RefusalsTest::corners, x -> x.goOn(at("g28"), false, 1));
        Twin.refused("goOn, the first in the last column", RefusalsTest::corners, x -> x.goOn(at("h28"), false, 1));
        Twin.refused("goOn, the second in the next row", RefusalsTest::corners, x -> x.goOn(at("h0"), false, 1));
        Twin.refused("goOn, the second in the next sheet", RefusalsTest::corners, x -> x.goOn(at("h29"), true, 1));
        Twin.refused("goOn, the last place of all", RefusalsTest::corners, x -> x.goOn(479, false, 1));
    }

    /** a0 2, a1 4: so a2 6, a3 8 and a4 10 come. */
    private static Sheetengine evens(String guarded, int least, int greatest) {
        Sheetengine x = new Sheetengine();
        x.number(at("a0"), 2, 1);
        x.number(at("a1"), 4, 1);
        if (!guarded.isEmpty()) {
            x.guard(at(guarded), true);
        }
        x.bound(at("a3"), least, greatest);
        return x;
    }

    private static void goingOnRefused() {
        Twin.refused("goOn, the first guarded", () -> evens("a2", 0, 9), x -> x.goOn(0, true, 2));
        Twin.refused("goOn, the last guarded", () -> evens("a4", 0, 9), x -> x.goOn(0, true, 3));
        Check.due("goOn ahead of the guard", evens("a4", 0, 9).goOn(0, true, 2), "8");
        Check.due("goOn from guarded places", evens("a0", 0, 9).goOn(0, true, 2) + evens("a1", 0, 9).goOn(0, true, 2), "88");
        Twin.refused("goOn above bounds", () -> evens("", 0, 7), x -> x.goOn(0, true, 2));
        Twin.refused("goOn below bounds", () -> evens("", 9, 10), x -> x.goOn(0, true, 3));
        Check.due("goOn within bounds", evens("", 8, 9).goOn(0, true, 2) + evens("", 7, 8).goOn(0, true, 3), "810");
        Check.due("goOn ahead of bounds", evens("", 9, 10).goOn(0, true, 1), "6");
        Check.due("goOn over texts and formulas", over(evens("", 0, 9)).goOn(0, true, 2), "8");
    }

    private static Sheetengine over(Sheetengine x) {
        x.text(at("a2"), 1);
        Check.enter(x, "a3", "a2");
        return x;
    }

    private static void goingOnBeyondCells() {
        Check.due("goOn with 60 cells over cells", Twin.full().goOn(0, false, 6) + Twin.full().goOn(0, true, 6), "11");
        Twin.refused("goOn with 60 cells to one more", Twin::full, x -> x.goOn(at("c6"), true, 1));
        Twin.refused("goOn with 60 cells, the last one more", Twin::full, x -> x.goOn(at("h0"), true, 6));
        Check.due("goOn with 58 cells to 60", withoutTwo().goOn(at("h3"), true, 3), "1");
        Twin.refused("goOn with 58 cells to 61", RefusalsTest::withoutTwo, x -> x.goOn(at("h3"), true, 6));
    }

    /** 58 CELLS: c0 and d0 are EMPTY. */
    private static Sheetengine withoutTwo() {
        Sheetengine x = Twin.full();
        x.clear(at("c0"));
        x.clear(at("d0"));
        return x;
    }

    private interface Put {
        void into(Sheetengine x);
    }

    /** What stands in a last row or column, or reaches it, in the SHEET 1. */
    private static void reaching(String what, Put put, boolean isRow, boolean isColumn) {
        Twin.Made made = () -> {
            Sheetengine x = new Sheetengine();
            Check.type(x, "1:h29");
            put.into(x);
            return x;
        };
        for (boolean is : new boolean[] {false, true}) {
            for (int at : new int[] {0, is ? 7 : 29}) {
                String told = (is ? "putIn column " : "putIn row ") + at + " with " + what;
                if (is ? isColumn : isRow) {
                    Twin.refused(told, made, x -> x.putIn(1, is, at));
                } else {
                    Check.due(told, made.made().putIn(1, is, at) >= 0, true);
                }
                Check.due(told + " in the other sheet", made.made().putIn(0, is, at) >= 0, true);
            }
        }
    }

    private static void puttingIn() {
        reaching("nothing but an input", x -> x.slip(), false, false);
        reaching("a cell in the last row", x -> x.number(at("1:a29"), 1, 1), true, false);
        reaching("a cell in the last column", x -> x.text(at("1:h0"), 1), false, true);
        reaching("a cell ahead of both", x -> x.truth(at("1:g28"), true), false, false);
        reaching("a guard in the last row", x -> x.guard(at("1:g29"), true), true, false);
        reaching("a guard in the last column", x -> x.guard(at("1:h28"), true), false, true);
        reaching("a guard ahead of both", x -> x.guard(at("1:g28"), true), false, false);
        reaching("bounds in the last row", x -> x.bound(at("1:g29"), 1, 1), true, false);
        reaching("bounds in the last column", x -> x.bound(at("1:h28"), 1, 1), false, true);
        reaching("no bounds in the last corner", x -> x.bound(at("1:h29"), 1, 0), false, false);
        reaching("a form in the last row", x -> x.form(at("1:g29"), 0), true, false);
        reaching("a form in the last column", x -> x.form(at("1:h28"), 3), false, true);
        reaching("no form in the last corner", x -> x.form(at("1:h29"), -1), false, false);
        reaching("a place in the last row", x -> entered(x, "a0", "w1&1:g29"), true, false);
        reaching("a place in both, of a formula in the sheet 0", x -> Twin.type(x, "a0", ""), true, true);
        reaching("a place in both, of a formula in the sheet 1", x -> Twin.type(x, "1:a0", ""), true, true);
        reaching("a held place in the last row", x -> entered(x, "a0", "1:$g$29"), true, false);
        reaching("a place in the last row, not looked at", x -> entered(x, "a0", "if(true,1,1:g29)"), true, false);
        reaching("a corner in the last column", x -> entered(x, "1:a1", "sum(1:c3..h5)"), false, true);
        reaching("a held corner in the last row", x -> entered(x, "1:a1", "sum(1:$c$3..$d$29)"), true, false);
        reaching("an area ahead of both", x -> entered(x, "1:a1", "sum(1:a0..g28)"), false, false);
        reaching("the same in the sheet 0", x -> entered(x, "1:a1", "1:a0"), false, false);
        reaching("the first name", x -> x.name(0, at("1:h29"), at("1:h3")), true, true);
        reaching("the last name", x -> x.name(5, at("1:a0"), at("1:b29")), true, false);
        reaching("a name to the last column", x -> x.name(3, at("1:h0"), at("1:g0")), false, true);
        reaching("a name ahead of both", x -> x.name(3, at("1:a0"), at("1:g28")), false, false);
        Sheetengine x = new Sheetengine();
        x.number(at("1:h29"), 1, 1);
        x.clear(at("1:h29"));
        Check.due("what was there before", x.putIn(1, false, 0) + x.putIn(1, true, 0), 0);
    }

    private static void entered(Sheetengine x, String place, String formula) {
        x.rub(30);
        Twin.type(x, place, formula);
    }

    private static Sheetengine withGuard(String place) {
        Sheetengine x = Twin.scene();
        x.guard(at(place), true);
        return x;
    }

    private static void takingOut() {
        Twin.refused("takeOut of a guarded row", Twin::scene, x -> x.takeOut(0, false, 2));
        Twin.refused("takeOut of a guarded column", Twin::scene, x -> x.takeOut(0, true, 2));
        Twin.refused("takeOut of a row with a guarded cell", Twin::scene, x -> x.takeOut(0, false, 0));
        Twin.refused("takeOut of the last row", () -> withGuard("1:h29"), x -> x.takeOut(1, false, 29));
        Twin.refused("takeOut of the last column", () -> withGuard("1:h29"), x -> x.takeOut(1, true, 7));
        Twin.refused("takeOut of the first row", () -> withGuard("1:a0"), x -> x.takeOut(1, false, 0));
        Twin.refused("takeOut of the first column", () -> withGuard("1:a0"), x -> x.takeOut(1, true, 0));
        Check.due("takeOut of the rows beside it", Twin.scene().takeOut(0, false, 1) + Twin.scene().takeOut(0, false, 3), 2);
        Check.due("takeOut of the columns beside it", Twin.scene().takeOut(0, true, 3) + Twin.scene().takeOut(0, true, 0), 2);
        Check.due("takeOut in the other sheet", Twin.scene().takeOut(1, false, 2) + Twin.scene().takeOut(1, true, 2), 0);
        Sheetengine x = new Sheetengine();
        x.bound(at("a0"), 0, 0);
        x.form(at("a0"), 0);
        Check.due("bounds and forms refuse nothing", x.takeOut(0, false, 0), 0);
    }

    /** a0 is 1/2, b0 is GUARDED, d2 has the BOUNDS -3 and 3; e0 is a0*2+b0. */
    private static void goals() {
        Check.due("goal", Twin.scene().goal(at("a0"), at("e0"), 0, 1), "-5/4");
        Twin.refused("goal of an empty place", Twin::scene, x -> x.goal(at("a0"), at("h9"), 0, 1));
        Twin.refused("goal of what does not hang on it", Twin::scene, x -> x.goal(at("d2"), at("e0"), 7, 2));
        Twin.refused("goal of what is alike already", Twin::scene, x -> x.goal(at("d2"), at("a0"), 1, 2));
        Twin.refused("goal of a text", Twin::scene, x -> x.goal(at("a0"), at("a1"), 1, 1));
        Twin.refused("goal of a fault", Twin::scene, x -> x.goal(at("a0"), at("b1"), 1, 1));
        Twin.refused("goal of a ring", Twin::scene, x -> x.goal(at("a0"), at("h0"), 1, 1));
        Twin.refused("goal of a guarded place", Twin::scene, x -> x.goal(at("b0"), at("e0"), 0, 1));
        Twin.refused("goal that is not met", () -> goalOf("a0*a0"), x -> x.goal(at("a0"), at("h9"), 4, 1));
        Check.due("goal that is met by chance", goalOf("a0*a0").goal(at("a0"), at("h9"), 1, 1), "1");
        Twin.refused("goal with a fault at 0", () -> goalOf("1/a0"), x -> x.goal(at("a0"), at("h9"), 1, 1));
        Twin.refused("goal with a fault at 1", () -> goalOf("1/(a0-1)"), x -> x.goal(at("a0"), at("h9"), -1, 1));
        Twin.refused("goal with a fault at x", () -> goalOf("a0+0/(a0-5)"), x -> x.goal(at("a0"), at("h9"), 5, 1));
        Twin.refused("goal, the same at 0 and 1", () -> goalOf("a0*0"), x -> x.goal(at("a0"), at("h9"), 0, 1));
        Twin.refused("goal of a truth", () -> goalOf("a0<1"), x -> x.goal(at("a0"), at("h9"), 1, 1));
        Twin.refused("goal, a text at 1", () -> goalOf("if(a0=1,w1,a0)"), x -> x.goal(at("a0"), at("h9"), 0, 1));
        Twin.refused("goal, another number at x", () -> goalOf("if(a0=5,6,a0)"), x -> x.goal(at("a0"), at("h9"), 5, 1));
        Check.due("goal, another number elsewhere", goalOf("if(a0=5,6,a0)").goal(at("a0"), at("h9"), 4, 1), "4");
    }

    private static Sheetengine goalOf(String formula) {
        Sheetengine x = Twin.scene();
        x.rub(30);
        Check.enter(x, "h9", formula);
        return x;
    }

    private static void slips() {
        Twin.leaves("enter of nothing", Sheetengine::new, x -> x.enter(0), 0);
        Twin.leaves("enter with a slip", Twin::scene, x -> x.enter(0), 3);
        Twin.leaves("enter with a slip where nothing stands", Twin::scene, x -> x.enter(at("h29")), 3);
        Twin.leaves("enter with a slip at a guarded place", Twin::scene, x -> x.enter(at("b0")), 3);
        Twin.leaves("enter of nothing at a guarded place", RefusalsTest::withoutInput, x -> x.enter(at("c2")), 0);
    }

    private static Sheetengine withoutInput() {
        Sheetengine x = Twin.scene();
        x.rub(3);
        return x;
    }

    private static void questions() {
        Twin.leaves("slip()", Twin::scene, Sheetengine::slip, 3);
        Twin.leaves("input()", Twin::scene, Sheetengine::input, "a0+(");
        Twin.leaves("isSound()", Twin::scene, Sheetengine::isSound, true);
        Twin.leaves("digest()", Twin::scene, Sheetengine::digest, Twin.scene().digest());
        Twin.leaves("reckoned()", Twin::scene, Sheetengine::reckoned, Twin.scene().reckoned());
        Twin.leaves("whatIf()", Twin::scene, x -> x.whatIf(at("b0"), at("e0"), 1, 1, 8), "2 3 4 5 6 7 8 9");
        Twin.leaves("whatIf() of a ring", Twin::scene, x -> x.whatIf(at("g0"), at("h0"), 1, -1, 2), "3/2 1/2");
        Twin.leaves("whatIf() of an empty place", Twin::scene, x -> x.whatIf(at("1:h29"), at("1:h29"), 7, 1, 1), "7");
        Twin.leaves("whatIf() with 60 cells", Twin::full, x -> x.whatIf(at("e7"), at("e7"), 7, 1, 1), "7");
        Twin.leaves("sorted()", Twin::scene, x -> x.sorted(0, 31, 0, true), "2 3 1 0");
        Twin.leaves("filtered()", Twin::scene, x -> x.filtered(0, 31, 0, 5, 0), "2 3");
        Twin.leaves("grouped()", Twin::scene, x -> x.grouped(0, 31, 0, 1), "-:0 1/2:5/2 37/2:0");
        Twin.leaves("goal() that is refused", Twin::scene, x -> x.goal(at("b0"), at("e0"), 1, 1), "-9");
    }
}
