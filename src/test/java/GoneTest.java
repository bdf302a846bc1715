/**
 * To FILL, to PUT IN and to TAKE OUT at the edges of SHEETS and areas: what stays, what moves, what grows, what is
 * lost, and what is GONE.
 */
public final class GoneTest {
    /** As marks() tells of the PLACE with more than a VALUE, and of one with nothing. */
    private static final String MARKED = " 1,1,3";
    private static final String BARE = " 0,-1,";

    public static void main(String[] args) {
        filledBeyond();
        filledToTheEdge();
        filledHeld();
        filledOver();
        filledAgain();
        putInAtAreas();
        putInAtPlaces();
        putInMoves();
        takenOutOfAreas();
        takenOutPlaces();
        takenOutFirstAndLast();
        takenOutWhat();
        namesLose();
        valuesOfGone();
        thereAndBack();
        Check.end();
    }

    private static int at(String place) {
        return Check.at(place);
    }

    /** The formula at one PLACE, filled to another one. */
    private static String filled(String from, String formula, String to) {
        Sheetengine x = new Sheetengine();
        Check.enter(x, from, formula);
        Check.due("fill of " + formula, x.fill(at(from), at(to), at(to)), 1);
        return x.formula(at(to));
    }

    private static void fills(String from, String formula, String to, String due) {
        Check.due(formula + " from " + from + " to " + to, filled(from, formula, to), due);
    }

    private static void filledBeyond() {
        fills("c3", "a0", "b3", "=gone");
        fills("c3", "a0", "c2", "=gone");
        fills("c3", "h29", "d3", "=gone");
        fills("c3", "h29", "c4", "=gone");
        fills("c3", "h5", "d3", "=gone");
        fills("c3", "a5", "b3", "=gone");
        fills("c3", "c29", "c4", "=gone");
        fills("c3", "c0", "c2", "=gone");
        fills("1:c3", "1:a0", "1:c2", "=gone");
        fills("1:c3", "1:h29", "1:c4", "=gone");
        fills("1:c3", "a0", "1:c2", "=gone");
        fills("c3", "1:h29", "d4", "=gone");
        fills("c3", "sum(a0..b1)", "c2", "=sum(gone)");
        fills("c3", "sum(a0..b1)", "b3", "=sum(gone)");
        fills("c3", "sum(g28..h29)", "c4", "=sum(gone)");
        fills("c3", "sum(g28..h29)", "d3", "=sum(gone)");
        fills("c3", "sum(1:g28..h29)", "d4", "=sum(gone)");
        fills("c3", "sum(a5..h5)", "d3", "=sum(gone)");
        fills("c3", "sum(a5..h5)", "b3", "=sum(gone)");
        fills("c3", "sum(d0..d29)", "c4", "=sum(gone)");
        fills("a0", "a0", "h29", "=h29");
        fills("h29", "h29", "a0", "=a0");
        fills("h29", "g29", "a29", "=gone");
        fills("h29", "h28", "h0", "=gone");
        fills("a0", "a1&1", "a29", "=gone&1");
        fills("a0", "b0-1", "h0", "=gone-1");
    }

    private static void filledToTheEdge() {
        fills("c3", "b1", "b2", "=a0");
        fills("c3", "g28", "d4", "=h29");
        fills("1:c3", "1:b1", "1:b2", "=a0");
        fills("1:c3", "g28", "1:d4", "=0:h29");
        fills("c3", "sum(b1..g28)", "d4", "=sum(c2..h29)");
        fills("c3", "sum(b1..g28)", "b2", "=sum(a0..f27)");
        fills("c3", "sum(1:b1..h29)", "b2", "=sum(1:a0..g28)");
        fills("a0", "b1", "g28", "=h29");
        fills("h29", "g28", "b1", "=a0");
    }

    private static void filledHeld() {
        fills("c3", "$a0", "b3", "=$a0");
        fills("c3", "$a0", "c2", "=gone");
        fills("c3", "a$0", "c2", "=a$0");
        fills("c3", "a$0", "b3", "=gone");
        fills("c3", "$a$0", "b2", "=$a$0");
        fills("c3", "$h29", "d3", "=$h29");
        fills("c3", "h$29", "c4", "=h$29");
        fills("c3", "$h$29", "d4", "=$h$29");
        fills("c3", "sum($a0..$h5)", "d4", "=sum($a1..$h6)");
        fills("c3", "sum(a$0..b$29)", "d4", "=sum(b$0..c$29)");
        fills("c3", "sum($a$0..$h$29)", "d4", "=sum($a$0..$h$29)");
        fills("c3", "sum($a0..$h29)", "d3", "=sum($a0..$h29)");
        fills("c3", "sum(n0)+7&w5&true", "d4", "=sum(n0)+7&w5&true");
    }

    /** Its own PLACE stays, all others of the AREA are written, and none beside it. */
    private static void filledOver() {
        Sheetengine x = new Sheetengine();
        for (int p = 0; p < 40; p++) {
            x.text(p, p);
        }
        Check.due("fill", x.fill(at("c2"), at("d3"), at("b1")), 8);
        StringBuilder all = new StringBuilder();
        for (int p = 0; p < 40; p++) {
            all.append(x.value(p).equals("w18") ? "x" : x.value(p).equals("w" + p) ? "." : "?");
        }
        Check.due("what was written", all.toString(), ".........xxx.....xxx.....xxx............");
        Check.due("fill to a row", x.fill(at("c2"), at("a4"), at("h4")), 8);
        Check.due("fill to a column", x.fill(at("c2"), at("h0"), at("h4")), 5);
        Check.due("fill of an empty place", x.fill(at("a9"), at("a0"), at("h4")) + x.house(0), 40);
        Check.due("it is filled with nothing", x.value(at("c2")) + x.house(0), "0");
        Check.due("in the sheet 1", x.number(240, 5, 1) + x.fill(240, 479, 478) + x.value(479), "25");
    }

    /** What is GONE stays so, however it is filled, put in or taken out. */
    private static void filledAgain() {
        Sheetengine x = new Sheetengine();
        Check.enter(x, "b1", "a0+sum(a0..b0)+count(a1..a1)");
        x.fill(at("b1"), at("b0"), at("b0"));
        Check.due("gone", x.formula(at("b0")), "=gone+sum(gone)+count(a0..a0)");
        x.fill(at("b0"), at("c5"), at("c5"));
        Check.due("gone, filled", x.formula(at("c5")), "=gone+sum(gone)+count(b5..b5)");
        x.putIn(0, false, 0);
        Check.due("gone, with a row put in", x.formula(at("c6")), "=gone+sum(gone)+count(b6..b6)");
        x.takeOut(0, true, 0);
        Check.due("gone, with a column taken out", x.formula(at("b6")), "=gone+sum(gone)+count(a6..a6)");
        x.takeOut(0, true, 0);
        Check.due("gone, with another one taken out", x.house(1) + x.formula(at("a6")), "1=gone+sum(gone)+count(gone)");
        Check.due("gone reads nothing", x.ofPlace(at("a6"), 4), 0);
        x.undo();
        Check.due("gone, undone", x.formula(at("b6")), "=gone+sum(gone)+count(a6..a6)");
        Check.due("value", x.value(at("b6")), "#gone");
    }

    /** What a formula becomes by a line in the SHEET 0; it stands in the SHEET 1, at h0. */
    private static String shifted(String formula, boolean isIn, boolean isColumn, int at) {
        Sheetengine x = new Sheetengine();
        Check.enter(x, "1:h0", formula);
        Check.due("a line in the sheet 0", isIn ? x.putIn(0, isColumn, at) : x.takeOut(0, isColumn, at), 0);
        return x.formula(247).replace("0:", "");
    }

    private static void rowIn(String formula, int at, String due) {
        Check.due(formula + ", row put in at " + at, shifted(formula, true, false, at), due);
    }

    private static void columnIn(String formula, int at, String due) {
        Check.due(formula + ", column put in at " + at, shifted(formula, true, true, at), due);
    }

    private static void rowOut(String formula, int at, String due) {
        Check.due(formula + ", row taken out at " + at, shifted(formula, false, false, at), due);
    }

    private static void columnOut(String formula, int at, String due) {
        Check.due(formula + ", column taken out at " + at, shifted(formula, false, true, at), due);
    }

    private static void putInAtAreas() {
        rowIn("sum(b3..d5)", 2, "=sum(b4..d6)");
        rowIn("sum(b3..d5)", 3, "=sum(b4..d6)");
        rowIn("sum(b3..d5)", 4, "=sum(b3..d6)");
        rowIn("sum(b3..d5)", 5, "=sum(b3..d6)");
        rowIn("sum(b3..d5)", 6, "=sum(b3..d5)");
        columnIn("sum(b3..d5)", 0, "=sum(c3..e5)");
        columnIn("sum(b3..d5)", 1, "=sum(c3..e5)");
        columnIn("sum(b3..d5)", 2, "=sum(b3..e5)");
        columnIn("sum(b3..d5)", 3, "=sum(b3..e5)");
        columnIn("sum(b3..d5)", 4, "=sum(b3..d5)");
        rowIn("sum(b3..d3)", 3, "=sum(b4..d4)");
        rowIn("sum(b3..d3)", 4, "=sum(b3..d3)");
        columnIn("sum(b3..b5)", 1, "=sum(c3..c5)");
        columnIn("sum(b3..b5)", 2, "=sum(b3..b5)");
        rowIn("sum($b$3..$d$5)", 4, "=sum($b$3..$d$6)");
        columnIn("sum($b$3..$d$5)", 0, "=sum($c$3..$e$5)");
        rowIn("sum(a0..h28)", 0, "=sum(a1..h29)");
        rowIn("sum(a0..h28)", 28, "=sum(a0..h29)");
        rowIn("sum(a0..h28)", 29, "=sum(a0..h28)");
        columnIn("sum(a0..g29)", 6, "=sum(a0..h29)");
        columnIn("sum(a0..g29)", 7, "=sum(a0..g29)");
        rowIn("sum(1:b3..d5)", 0, "=sum(b3..d5)");
        columnIn("sum(1:b3..d29)", 0, "=sum(b3..d29)");
    }

    private static void putInAtPlaces() {
        rowIn("c3", 2, "=c4");
        rowIn("c3", 3, "=c4");
        rowIn("c3", 4, "=c3");
        columnIn("c3", 1, "=d3");
        columnIn("c3", 2, "=d3");
        columnIn("c3", 3, "=c3");
        rowIn("$c$3", 3, "=$c$4");
        columnIn("$c$3", 2, "=$d$3");
        rowIn("a0", 0, "=a1");
        rowIn("a28", 28, "=a29");
        rowIn("a28", 29, "=a28");
        columnIn("g0", 6, "=h0");
        columnIn("g0", 7, "=g0");
        rowIn("h0", 0, "=h1");
        columnIn("a29", 0, "=b29");
        rowIn("1:c3", 0, "=c3");
        columnIn("1:h29", 0, "=h29");
    }

    /** Ten CELLS in the diagonal, the last one at d9; four of them have more than a VALUE. */
    private static Sheetengine diagonal() {
        Sheetengine x = new Sheetengine();
        for (int k = 0; k < 10; k++) {
            x.number(9 * k - (k > 3 ? k - 3 : 0), k + 1, 1);
        }
        x.number(240, 1, 1);
        x.form(at("c2"), 1);
        x.bound(at("c2"), 3, 4);
        x.guard(at("c2"), true);
        return x;
    }

    private static void putInMoves() {
        Sheetengine x = diagonal();
        Check.due("cells", x.house(0) + x.value(at("a0")) + x.value(at("d3")) + x.value(at("d9")), "111410");
        int[] rows = {10, 9, 8, 7, 6, 5, 4, 3, 2, 1, 0};
        for (int row = 0; row <= 10; row++) {
            Check.due("moved by a row at " + row, diagonal().putIn(0, false, row), rows[row]);
        }
        Check.due("moved by the last row", diagonal().putIn(0, false, 29), 0);
        int[] columns = {10, 9, 8, 7, 0, 0, 0, 0};
        for (int column = 0; column <= 7; column++) {
            Check.due("moved by a column at " + column, diagonal().putIn(0, true, column), columns[column]);
        }
        Check.due("moved in the sheet 1", diagonal().putIn(1, false, 0) + " " + diagonal().putIn(1, true, 1), "1 0");
        Check.due("before", marks(x, "c2", "c3", "d2"), MARKED + BARE + BARE);
        Check.due("the row at it moves", moved(x, false, 2) + marks(x, "c2", "c3"), "8" + BARE + MARKED);
        x = diagonal();
        Check.due("the row ahead of it stays", moved(x, false, 3) + marks(x, "c2", "c3"), "7" + MARKED + BARE);
        x = diagonal();
        Check.due("the column at it moves", moved(x, true, 2) + marks(x, "c2", "d2"), "8" + BARE + MARKED);
        x = diagonal();
        Check.due("the column ahead of it stays", moved(x, true, 3) + marks(x, "c2", "d2"), "7" + MARKED + BARE);
        x = diagonal();
        Check.due("bounds move too", moved(x, false, 0) + x.guard(at("c3"), false) + x.number(at("c3"), 5, 1) + x.number(at("c2"), 5, 1), "101-90");
    }

    private static String moved(Sheetengine x, boolean isColumn, int at) {
        return String.valueOf(x.putIn(0, isColumn, at));
    }

    /** GUARD, FORM and VALUE at PLACES, each behind a space. */
    private static String marks(Sheetengine x, String... places) {
        StringBuilder all = new StringBuilder();
        for (String place : places) {
            int p = at(place);
            all.append(' ').append(x.ofPlace(p, 7)).append(',').append(x.ofPlace(p, 8)).append(',').append(x.value(p));
        }
        return all.toString();
    }

    private static void takenOutOfAreas() {
        rowOut("sum(b3..d5)", 2, "=sum(b2..d4)");
        rowOut("sum(b3..d5)", 3, "=sum(b3..d4)");
        rowOut("sum(b3..d5)", 4, "=sum(b3..d4)");
        rowOut("sum(b3..d5)", 5, "=sum(b3..d4)");
        rowOut("sum(b3..d5)", 6, "=sum(b3..d5)");
        columnOut("sum(b3..d5)", 0, "=sum(a3..c5)");
        columnOut("sum(b3..d5)", 1, "=sum(b3..c5)");
        columnOut("sum(b3..d5)", 2, "=sum(b3..c5)");
        columnOut("sum(b3..d5)", 3, "=sum(b3..c5)");
        columnOut("sum(b3..d5)", 4, "=sum(b3..d5)");
        rowOut("sum(b3..d3)", 3, "=sum(gone)");
        rowOut("sum(b3..d3)", 2, "=sum(b2..d2)");
        rowOut("sum(b3..d3)", 4, "=sum(b3..d3)");
        rowOut("sum(b3..d4)", 3, "=sum(b3..d3)");
        rowOut("sum(b3..d4)", 4, "=sum(b3..d3)");
        columnOut("sum(b3..b5)", 1, "=sum(gone)");
        columnOut("sum(b3..c5)", 1, "=sum(b3..b5)");
        columnOut("sum(b3..c5)", 2, "=sum(b3..b5)");
        columnOut("sum(b3..b5)", 0, "=sum(a3..a5)");
        columnOut("sum(b3..b5)", 2, "=sum(b3..b5)");
        rowOut("sum($b$3..$d$3)", 3, "=sum(gone)");
        rowOut("sum($b$3..$d$5)", 3, "=sum($b$3..$d$4)");
        rowOut("sum(1:b3..d3)", 3, "=sum(b3..d3)");
        columnOut("sum(1:b3..b3)", 1, "=sum(b3..b3)");
        rowOut("sum(a0..h29)", 0, "=sum(a0..h28)");
        rowOut("sum(a0..h29)", 29, "=sum(a0..h28)");
        columnOut("sum(a0..h29)", 0, "=sum(a0..g29)");
        columnOut("sum(a0..h29)", 7, "=sum(a0..g29)");
    }

    private static void takenOutPlaces() {
        rowOut("c3", 2, "=c2");
        rowOut("c3", 3, "=gone");
        rowOut("c3", 4, "=c3");
        columnOut("c3", 1, "=b3");
        columnOut("c3", 2, "=gone");
        columnOut("c3", 3, "=c3");
        rowOut("$c$3", 3, "=gone");
        columnOut("$c$3", 2, "=gone");
        rowOut("$c$3", 0, "=$c$2");
        columnOut("$c$3", 0, "=$b$3");
        rowOut("1:c3", 3, "=c3");
        columnOut("1:c3", 2, "=c3");
        rowOut("c3+c3*c4", 3, "=gone+gone*c3");
        rowOut("count(c3)&count(n1)", 3, "=count(gone)&count(n1)");
    }

    private static void takenOutFirstAndLast() {
        rowOut("a0", 0, "=gone");
        rowOut("h29", 29, "=gone");
        rowOut("h29", 28, "=h28");
        rowOut("a1", 0, "=a0");
        columnOut("a0", 0, "=gone");
        columnOut("h29", 7, "=gone");
        columnOut("h29", 6, "=g29");
        columnOut("b0", 0, "=a0");
        rowOut("sum(a29..h29)", 29, "=sum(gone)");
        rowOut("sum(a0..h0)", 0, "=sum(gone)");
        columnOut("sum(h0..h29)", 7, "=sum(gone)");
        columnOut("sum(a0..a29)", 0, "=sum(gone)");
    }

    private static void takenOutWhat() {
        int[] rows = {1, 1, -9, 1, 1, 1, 1, 1, 1, 1, 0};
        for (int row = 0; row <= 10; row++) {
            Check.due("went with the row " + row, diagonal().takeOut(0, false, row), rows[row]);
        }
        int[] columns = {1, 1, -9, 7, 0, 0, 0, 0};
        for (int column = 0; column <= 7; column++) {
            Check.due("went with the column " + column, diagonal().takeOut(0, true, column), columns[column]);
        }
        Sheetengine x = diagonal();
        Check.due("the row behind moves up", x.takeOut(0, false, 1) + marks(x, "c1", "c2"), "1" + MARKED + BARE);
        x = diagonal();
        Check.due("the column behind moves left", x.takeOut(0, true, 1) + marks(x, "b2", "c2"), "1" + MARKED + BARE);
        Check.due("bounds moved too", x.guard(at("b2"), false) + " " + x.number(at("b2"), 5, 1) + " " + x.number(at("c2"), 5, 1), "1 -9 0");
        x = diagonal();
        Check.due("the row ahead stays", x.takeOut(0, false, 3) + marks(x, "c2", "c3"), "1" + MARKED + BARE);
        x.guard(at("c2"), false);
        Check.due("what stands in it goes", x.takeOut(0, false, 2) + marks(x, "c1", "c2"), "1" + BARE + BARE);
        Check.due("bounds went too", x.number(at("c2"), 5, 1), 0);
        x.undo();
        x.undo();
        Check.due("it is undone", marks(x, "c2"), " 0,1,3");
        Check.due("bounds too", x.number(at("c2"), 5, 1), -9);
    }

    /** What a name is of, as the PLACES that a formula READS: each of them has a CELL, but for the last row. */
    private static String named(String one, String other, boolean isIn, boolean isColumn, int line) {
        Sheetengine x = new Sheetengine();
        for (int p = 0; p < 56; p++) {
            if (p % 8 < 7) {
                x.number(p, 1, 1);
            }
        }
        Check.enter(x, "1:a0", "count(n4)");
        x.name(4, at(one), at(other));
        if (isIn) {
            x.putIn(0, isColumn, line);
        } else {
            x.takeOut(0, isColumn, line);
        }
        return x.house(5) == 0 ? x.value(240) : x.reads(240, false);
    }

    private static void namesLose() {
        Check.due("a name, a row put in ahead", named("b1", "c2", true, false, 0), "17 18 25 26");
        Check.due("a name, a row put in at its first", named("b1", "c2", true, false, 1), "17 18 25 26");
        Check.due("a name, a row put in between", named("b1", "c2", true, false, 2), "9 10 25 26");
        Check.due("a name, a row put in behind", named("b1", "c2", true, false, 3), "9 10 17 18");
        Check.due("a name, a column put in between", named("b1", "c2", true, true, 2), "9 11 17 19");
        Check.due("a name, a column put in behind", named("b1", "c2", true, true, 3), "9 10 17 18");
        Check.due("a name, a row taken out ahead", named("b1", "c2", false, false, 0), "1 2 9 10");
        Check.due("a name, its first row taken out", named("b1", "c2", false, false, 1), "9 10");
        Check.due("a name, its last row taken out", named("b1", "c2", false, false, 2), "9 10");
        Check.due("a name, its only row taken out", named("b1", "c1", false, false, 1), "#name");
        Check.due("a name, its first column taken out", named("b1", "c2", false, true, 1), "9 17");
        Check.due("a name, its last column taken out", named("b1", "c2", false, true, 2), "9 17");
        Check.due("a name, its only column taken out", named("b1", "b2", false, true, 1), "#name");
        Check.due("a name, a row behind taken out", named("b1", "c2", false, false, 3), "9 10 17 18");
        Check.due("a name of the first row", named("a0", "a0", false, false, 0), "#name");
        Check.due("a name of the last row", named("a29", "h29", false, false, 29), "#name");
        Check.due("a name of the last column", named("h0", "h29", false, true, 7), "#name");
        Sheetengine x = new Sheetengine();
        x.name(0, at("1:a1"), at("1:h1"));
        x.name(5, at("a1"), at("h1"));
        Check.due("the name of the other sheet stays", x.takeOut(0, false, 1) + x.house(5), 1);
        x.undo();
        Check.due("it is told again by undoing", x.house(5), 2);
        x.redo();
        Check.due("which one was told", x.name(5, -1, 0) + " " + x.name(0, -1, 0), "0 1");
    }

    private static void valuesOfGone() {
        String[] formulas = {"c1", "-c1", "c1+1", "1-c1", "c1*w1", "w1/c1", "c1&1", "1&c1", "c1=c1", "1<c1", "if(c1,1,2)", "not(c1)",
            "sum(c1)", "count(c1..d1)", "least(c1)", "most(a1..h1)", "countif(c1,1/0)", "look(1,c1,1/0)", "look(c1,c1..c2,1)",
            "look(1,c1..c2,d1)", "countif(c2,d1)", "if(true,c1,1)", "if(false,1,c1)"};
        for (String formula : formulas) {
            Sheetengine x = new Sheetengine();
            Check.enter(x, "a0", formula);
            x.takeOut(0, false, 1);
            Check.due("value of " + x.formula(0), x.value(0), "#gone");
            Check.due("kind of " + x.formula(0), x.ofPlace(0, 0), 4);
        }
        String[] others = {"isfault(c1)", "true", "isfault(sum(c1))", "true", "if(true,1,c1)", "1", "if(false,c1,2)", "2", "1/0+c1", "#zero",
            "look(1/0,c1,1)", "#zero", "look(w1+1,c1,c1)", "#kind", "1/0&c1", "#zero", "if(1,c1,c1)", "#kind", "count(n0)+c1", "#name",
            "countif(n0,c1)", "#name", "look(1,n0,c1)", "#name"};
        for (int k = 0; k < others.length; k += 2) {
            Sheetengine x = new Sheetengine();
            Check.enter(x, "a0", others[k]);
            x.takeOut(0, false, 1);
            Check.due("value of " + x.formula(0), x.value(0), others[k + 1]);
        }
    }

    /** A row put in anywhere and taken out again leaves all formulas and names. */
    private static void thereAndBack() {
        for (int row = 0; row < 30; row++) {
            Sheetengine x = new Sheetengine();
            Check.enter(x, "1:a0", "sum(a0..c28)&a5&$b$28&count(c5..d5)&1:a3");
            Check.enter(x, "c5", "sum(n0)&1:a0");
            x.name(0, at("a4"), at("b6"));
            x.number(at("a5"), 7, 1);
            String before = x.why(240) + x.why(at("c5"));
            x.putIn(0, false, row);
            x.takeOut(0, false, row);
            Check.due("a row at " + row, x.why(240) + x.why(at("c5")), before);
        }
    }
}
