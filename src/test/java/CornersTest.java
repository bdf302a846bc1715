/**
 * The first and the last PLACES of both SHEETS (0, 239, 240 and 479), the first and the last lines: what is put,
 * asked, moved and kept there, and that one SHEET, row or column does not run into the next.
 */
public final class CornersTest {
    private static final int[] CORNERS = {0, 7, 232, 239, 240, 247, 472, 479};

    public static void main(String[] args) {
        cells();
        marks();
        readAtCorners();
        areasAtCorners();
        writtenOnce();
        textsAtCorners();
        takenOutAtTheEnd();
        takenOutAtTheBegin();
        notIntoTheNext();
        putInAtTheEnd();
        readersOfFirst();
        anyTwoCorners();
        digestAtCorners();
        Check.end();
    }

    private static int at(String place) {
        return Check.at(place);
    }

    private static void cells() {
        for (int p : CORNERS) {
            Sheetengine x = new Sheetengine();
            Check.due("number at " + p, x.number(p, 1, 1) + x.value(p), "01");
            Check.due("text at " + p, x.text(p, 1) + x.value(p), "0w1");
            Check.due("truth at " + p, x.truth(p, false) + x.value(p), "0false");
            Check.type(x, "1+1");
            Check.due("enter at " + p, x.enter(p) + x.value(p), "-12");
            Check.due("goal at " + p, x.goal(p, p, 5, 1) + x.value(p), "55");
            Check.due("one cell at " + p, x.house(0) + " " + x.reads(p, true), "1 ");
            for (int q : CORNERS) {
                Check.due("value at " + q + " beside " + p, x.value(q), q == p ? "5" : "");
            }
            Check.due("clear at " + p, x.clear(p) + x.value(p) + x.house(0), "00");
        }
    }

    /** GUARDS, BOUNDS and FORMS stay through other CHANGES, and are counted. */
    private static void marks() {
        Sheetengine x = new Sheetengine();
        for (int k = 0; k < CORNERS.length; k++) {
            x.form(CORNERS[k], k % 4);
            x.bound(CORNERS[k], k, k);
        }
        for (int k = 0; k < CORNERS.length; k++) {
            x.guard(CORNERS[k], true);
            Check.due("guarded places", x.house(6), k + 1);
        }
        for (int k = 0; k < CORNERS.length; k++) {
            int p = CORNERS[k];
            Check.due("guarded " + p, x.ofPlace(p, 7), 1);
            Check.due("form of " + p, x.ofPlace(p, 8), k % 4);
            x.guard(p, false);
            Check.due("bounds of " + p, x.number(p, k + 1, 1) + " " + x.number(p, k - 1, 1) + " " + x.number(p, k, 1), "-9 -9 0");
        }
        Check.due("no guarded places", x.house(6), 0);
        Check.due("beside them", x.ofPlace(1, 7) + x.ofPlace(478, 7) + x.ofPlace(238, 8) + x.ofPlace(241, 8), -2);
    }

    private static void readAtCorners() {
        Sheetengine x = new Sheetengine();
        for (int k = 0; k < CORNERS.length; k++) {
            x.number(CORNERS[k], k + 1, 1);
        }
        Check.enter(x, "c5", "a0&h0&a29&h29&1:a0&1:h0&1:a29&1:h29");
        Check.due("value", x.value(at("c5")), "12345678");
        Check.due("formula", x.formula(at("c5")), "=a0&h0&a29&h29&1:a0&1:h0&1:a29&1:h29");
        Check.due("what it reads", x.reads(at("c5"), false), "0 7 232 239 240 247 472 479");
        Check.due("why", x.why(at("c5")),
                "=a0&h0&a29&h29&1:a0&1:h0&1:a29&1:h29 = 12345678; 0:1; 7:2; 232:3; 239:4; 240:5; 247:6; 472:7; 479:8");
        for (int p : CORNERS) {
            Check.due("who reads " + p, x.reads(p, true) + " " + x.ofPlace(p, 5) + x.ofPlace(p, 6), "42 11");
            Check.due("reckoned by " + p, x.clear(p) + x.reckoned(), "142");
        }
        Check.due("value of nothing", x.value(at("c5")), "");
    }

    private static void areasAtCorners() {
        for (int sheet = 0; sheet < 2; sheet++) {
            Sheetengine x = new Sheetengine();
            String of = sheet == 0 ? "" : "1:";
            int out = at(sheet == 0 ? "1:c5" : "c5");
            for (int k = 0; k < 4; k++) {
                x.number(CORNERS[4 * sheet + k], k + 1, 1);
            }
            x.name(1, sheet * 240, sheet * 240 + 239);
            String place = sheet == 0 ? "1:c5" : "c5";
            Check.enter(x, place, "sum(" + of + "a0..h29)&count(" + of + "a0..h29)&least(" + of + "a0..h29)&most(n1)");
            Check.due("all of a sheet", x.value(out), "10414");
            Check.due("what it reads", x.ofPlace(out, 4), 4);
            Check.enter(x, place, "countif(n1,4)&look(3," + of + "a0..h29,8)&look(1,n1,8)");
            Check.due("all of a sheet", x.value(out), "142");
            Check.enter(x, place, "sum(" + of + "b0..g29)&sum(" + of + "a1..h28)&sum(" + of + "h29..h29)");
            Check.due("all but its edges", x.value(out), "004");
            Check.due("what it reads", x.reads(out, false), String.valueOf(239 + sheet * 240));
            Check.due("who reads an empty place within", x.reads(sheet * 240 + 9, true), String.valueOf(out));
            Check.due("who reads an empty place of the other sheet", x.reads((1 - sheet) * 240 + 9, true), "");
        }
    }

    /** What was WRITTEN by one CHANGE is not RECKONED by the next one. */
    private static void writtenOnce() {
        for (int p : CORNERS) {
            Sheetengine x = new Sheetengine();
            Check.type(x, "1+1");
            x.enter(p);
            Check.due("by enter at " + p, x.reckoned(), String.valueOf(p));
            x.number(100, 1, 1);
            Check.due("by number elsewhere, behind enter at " + p, x.reckoned() + x.ofPlace(p, 9), "0");
            x.fill(p, p, p < 240 ? p / 8 * 8 + 3 : p / 8 * 8 + 4);
            x.clear(101);
            Check.due("by clear elsewhere, behind fill from " + p, x.reckoned(), "");
        }
    }

    private static void textsAtCorners() {
        for (int p : CORNERS) {
            Sheetengine x = new Sheetengine();
            Check.type(x, "a0&1:a0&sum(h29..h29)&sum(1:h29..h29)");
            x.enter(p);
            Check.due("formula at " + p, x.formula(p), p < 240 ? "=a0&1:a0&sum(h29..h29)&sum(1:h29..h29)"
                    : "=0:a0&a0&sum(0:h29..h29)&sum(h29..h29)");
            Check.due("on a ring", x.ofPlace(p, 3), p == 0 || p == 239 || p == 240 || p == 479 ? 1 : 0);
        }
    }

    /** A line ahead is taken out: what is in the last line moves, with its GUARD, BOUNDS and FORM. */
    private static void takenOutAtTheEnd() {
        for (int sheet = 0; sheet < 2; sheet++) {
            for (boolean isColumn : new boolean[] {false, true}) {
                for (int line : new int[] {0, isColumn ? 6 : 28}) {
                    int last = sheet * 240 + 239;
                    int to = isColumn ? last - 1 : last - 8;
                    Sheetengine x = new Sheetengine();
                    x.number(last, 7, 1);
                    x.form(last, 1);
                    x.bound(last, 7, 7);
                    Check.enter(x, sheet == 0 ? "1:b5" : "b5", sheet == 0 ? "h29" : "1:h29");
                    x.guard(last, true);
                    String told = "sheet " + sheet + (isColumn ? ", column " : ", row ") + line;
                    Check.due("takeOut, " + told, x.takeOut(sheet, isColumn, line), 0);
                    Check.due("the last one moved, " + told, x.value(last) + "," + x.shown(to), ",7.0");
                    Check.due("its guard too, " + told, x.ofPlace(last, 7) + " " + x.ofPlace(to, 7), "0 1");
                    Check.due("its form too, " + told, x.ofPlace(last, 8) + " " + x.ofPlace(to, 8), "-1 1");
                    x.guard(to, false);
                    Check.due("its bounds too, " + told, x.number(last, 8, 1) + " " + x.number(to, 8, 1), "0 -9");
                    int reader = sheet == 0 ? at("1:b5") : at("b5");
                    Check.due("who reads it, " + told, x.formula(reader), "=" + (1 - sheet == 0 ? "1:" : "0:") + (isColumn ? "g29" : "h28"));
                    Check.due("what it reads, " + told, x.reads(reader, false), String.valueOf(to));
                    Check.due("the last one goes, " + told, x.clear(last) + x.takeOut(sheet, isColumn, isColumn ? 6 : 28), 1);
                    Check.due("then it is gone, " + told, x.value(reader), "#gone");
                }
            }
        }
    }

    private static void takenOutAtTheBegin() {
        for (int sheet = 0; sheet < 2; sheet++) {
            for (boolean isColumn : new boolean[] {false, true}) {
                int first = sheet * 240;
                int second = isColumn ? first + 1 : first + 8;
                Sheetengine x = new Sheetengine();
                x.number(first, 1, 1);
                x.number(second, 2, 1);
                x.form(second, 2);
                String told = "sheet " + sheet + (isColumn ? ", column" : ", row");
                Check.due("takeOut of the first, " + told, x.takeOut(sheet, isColumn, 0), 1);
                Check.due("the second came, " + told, x.shown(first) + "," + x.value(second) + x.house(0), "2.00,1");
                Check.due("takeOut of the first again, " + told, x.takeOut(sheet, isColumn, 0) + x.value(first) + x.house(0), "10");
                Check.due("takeOut of nothing, " + told, x.takeOut(sheet, isColumn, 0), 0);
                x.undo();
                x.undo();
                x.undo();
                Check.due("undone, " + told, x.value(first) + x.shown(second), "12.00");
                Check.due("putIn of the first, " + told, x.putIn(sheet, isColumn, 0), 2);
                Check.due("both moved, " + told, x.value(first) + "," + x.value(second) + "," + x.shown(2 * second - first), ",1,2.00");
            }
        }
    }

    /** The last CELL of a row is not beside the first one of the next, nor the SHEET 0 above the SHEET 1. */
    private static void notIntoTheNext() {
        Sheetengine x = new Sheetengine();
        for (int p : CORNERS) {
            x.text(p, p / 8);
        }
        x.text(8, 1);
        x.text(15, 1);
        Check.due("takeOut of a column within", x.takeOut(0, true, 3), 0);
        Check.due("what comes to the last column", x.value(7) + x.value(15) + x.value(231) + x.value(239), "");
        Check.due("what came ahead of it", x.value(6) + x.value(14) + x.value(238) + x.value(8) + x.value(240), "w0w1w29w1w30");
        Check.due("takeOut of a row within", x.takeOut(0, false, 9) + x.value(232) + x.value(239), "0");
        Check.due("what came above", x.value(224) + x.value(230), "w29w29");
        Check.due("the sheet 1 stays", x.value(240) + x.value(247) + x.value(472) + x.value(479), "w30w30w59w59");
        Check.due("takeOut of the last row of the sheet 1", x.takeOut(1, false, 29), 2);
        Check.due("the sheet 0 stays", x.value(224) + x.value(230) + x.value(0) + x.value(6), "w29w29w0w0");
        x.text(239, 5);
        Check.due("takeOut of the last column of the sheet 1", x.takeOut(1, true, 7) + x.value(239), "1w5");
        Check.due("takeOut of the first row of the sheet 1", x.takeOut(1, false, 0) + x.value(239), "1w5");
        Check.due("all that is left of it", x.house(0), 7);
        Check.due("takeOut of the last row of the sheet 0", x.text(240, 6) + x.takeOut(0, false, 29) + x.value(240), "1w6");
        Check.due("takeOut of the last column of the sheet 0", x.text(7, 8) + x.takeOut(0, true, 7) + x.value(240) + x.value(8), "1w6w1");
    }

    /** What stands in the last line of one SHEET does not matter to the other one. */
    private static void putInAtTheEnd() {
        for (int sheet = 0; sheet < 2; sheet++) {
            for (int p : CORNERS) {
                boolean isOwn = p / 240 == sheet;
                boolean isLastRow = isOwn && p % 240 / 8 == 29;
                boolean isLastColumn = isOwn && p % 8 == 7;
                Sheetengine x = new Sheetengine();
                x.number(p, 1, 1);
                Check.due("putIn of a row in the sheet " + sheet + " with " + p, x.putIn(sheet, false, 29), isLastRow ? -9 : 0);
                Check.due("putIn of a column in the sheet " + sheet + " with " + p, x.putIn(sheet, true, 7), isLastColumn ? -9 : 0);
                Check.due("it stays", x.value(p), "1");
                Check.due("putIn of the first row in the sheet " + sheet + " with " + p, x.putIn(sheet, false, 0), isLastRow ? -9 : isOwn ? 1 : 0);
                Check.due("where it is", x.value(isOwn && !isLastRow ? p + 8 : p), "1");
                Check.due("undone", isLastRow ? "1" : x.undo() + x.value(p), isLastRow ? "1" : x.house(7) + "1");
                Check.due("putIn of the first column in the sheet " + sheet + " with " + p, x.putIn(sheet, true, 0), isLastColumn ? -9 : isOwn ? 1 : 0);
                Check.due("where it is", x.value(isOwn && !isLastColumn ? p + 1 : p), "1");
            }
        }
    }

    /** The first PLACE of a SHEET as a place, as both corners of an area and as a name, when it moves or is lost. */
    private static void readersOfFirst() {
        for (int sheet = 0; sheet < 2; sheet++) {
            for (boolean isColumn : new boolean[] {false, true}) {
                int first = sheet * 240;
                int second = first + (isColumn ? 1 : 8);
                String a0 = sheet == 0 ? "a0" : "1:a0";
                String out = sheet == 0 ? "1:c5" : "c5";
                Sheetengine x = new Sheetengine();
                x.number(first, 7, 1);
                x.name(0, first, first);
                Check.enter(x, out, a0 + "+sum(" + a0 + "..a0)*10+sum(n0)*100");
                Check.due("value", x.value(at(out)), "777");
                String told = "sheet " + sheet + (isColumn ? ", column" : ", row");
                Check.due("putIn, " + told, x.putIn(sheet, isColumn, 0), 1);
                Check.due("value behind putIn, " + told, x.value(at(out)), "777");
                Check.due("what it reads, " + told, x.reads(at(out), false) + " " + x.reads(second, true), second + " " + at(out));
                String of = (sheet == 0 ? "0:" : "1:") + (isColumn ? "b0" : "a1");
                Check.due("formula, " + told, x.formula(at(out)), "=" + of + "+sum(" + of + ".." + of.substring(2) + ")*10+sum(n0)*100");
                x.takeOut(sheet, isColumn, 0);
                Check.due("value behind takeOut, " + told, x.value(at(out)), "777");
                x.takeOut(sheet, isColumn, 0);
                Check.due("all lost, " + told, x.formula(at(out)) + " " + x.house(5), "=gone+sum(gone)*10+sum(n0)*100 0");
            }
        }
    }

    /** An AREA is told by any two opposite corners. */
    private static void anyTwoCorners() {
        String[][] corners = {{"b1", "d3"}, {"d3", "b1"}, {"b3", "d1"}, {"d1", "b3"}};
        for (String[] c : corners) {
            for (int sheet = 0; sheet < 2; sheet++) {
                int one = at(c[0]) + 240 * sheet;
                int other = at(c[1]) + 240 * sheet;
                Sheetengine x = new Sheetengine();
                x.token(4, one, other, 2);
                Check.due("text of the area", x.input(), (sheet == 0 ? "" : "1:") + "$b1..$d3");
                x.rub(1);
                x.number(240 * sheet, 1, 1);
                Check.due("fill", x.fill(240 * sheet, one, other), 9);
                x.name(3, one, other);
                Check.enter(x, "h0", "count(n3)&sum(n3)");
                Check.due("what is filled and named", x.value(7), "99");
                Check.due("what a name reads", x.reads(7, false).startsWith((9 + 240 * sheet) + " "), true);
                Check.due("the first row of it", Check.valueOf(x, "look(1,n3,3)&countif(n3,1)"), "19");
                x.putIn(sheet, false, 1);
                Check.due("what it is of behind putIn", x.reads(7, false).startsWith((17 + 240 * sheet) + " "), true);
                x.takeOut(sheet, false, 4);
                Check.due("what it is of behind takeOut", x.value(7), "66");
            }
        }
    }

    private static void digestAtCorners() {
        for (int p : CORNERS) {
            Sheetengine x = new Sheetengine();
            long before = x.digest();
            x.number(p, 1, 1);
            x.undo();
            x.redo();
            Check.due("digest with a cell at " + p, x.digest(), DigestTest.told(x).longValue());
            x.text(p, 1);
            Check.due("digest with a text at " + p, x.digest() != before, true);
        }
    }
}
