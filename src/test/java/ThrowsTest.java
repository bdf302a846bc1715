/**
 * "Throws" of each promise: the last value that may be and the first that may not, on both sides; which exception
 * is the first; and that a method that throws changes nothing.
 */
public final class ThrowsTest {
    private static final int[] FAR = {Integer.MIN_VALUE, Integer.MAX_VALUE};

    public static void main(String[] args) {
        tokens();
        tokenOrder();
        placesOfChanges();
        putNumbers();
        fills();
        goingOn();
        names();
        lines();
        bounds();
        goals();
        steps();
        placesOfQuestions();
        rows();
        whatIf();
        full();
        order();
        Check.end();
    }

    private static void tokens() {
        Twin.within("token kind", 0, 6, Twin::scene, (x, k) -> x.token(k, 0, 0, 0));
        Twin.within("token number", -9999, 9999, Twin::scene, (x, k) -> x.token(0, k, 0, 0));
        Twin.within("token text", 0, 99, Twin::scene, (x, k) -> x.token(1, k, 0, 0));
        Twin.within("token truth", 0, 1, Twin::scene, (x, k) -> x.token(2, k, 0, 0));
        Twin.within("token place", 0, 479, Twin::scene, (x, k) -> x.token(3, k, 0, 0));
        Twin.within("token held of a place", 0, 3, Twin::scene, (x, k) -> x.token(3, 9, k, 0));
        Twin.within("token one of the sheet 0", 0, 239, Twin::scene, (x, k) -> x.token(4, k, 9, 0));
        Twin.within("token one of the sheet 1", 240, 479, Twin::scene, (x, k) -> x.token(4, k, 249, 0));
        Twin.within("token other of the sheet 0", 0, 239, Twin::scene, (x, k) -> x.token(4, 9, k, 0));
        Twin.within("token other of the sheet 1", 240, 479, Twin::scene, (x, k) -> x.token(4, 249, k, 0));
        Twin.within("token held of an area", 0, 3, Twin::scene, (x, k) -> x.token(4, 9, 18, k));
        Twin.within("token name", 0, 5, Twin::scene, (x, k) -> x.token(5, k, 0, 0));
        Twin.within("token word", 0, 20, Twin::scene, (x, k) -> x.token(6, k, 0, 0));
        for (int kind : new int[] {0, 1, 2, 5, 6}) {
            Twin.may("not looked at with the kind " + kind + ", b", Twin::scene, (x, k) -> x.token(kind, 1, k, 0), FAR);
            Twin.may("not looked at with the kind " + kind + ", c", Twin::scene, (x, k) -> x.token(kind, 1, 0, k), FAR);
        }
        Twin.may("not looked at with a place, c", Twin::scene, (x, k) -> x.token(3, 1, 3, k), FAR);
        Twin.mayNot("rub", Twin::scene, (x, k) -> x.rub(k), -1, Integer.MIN_VALUE);
        Twin.may("rub", Twin::scene, (x, k) -> x.rub(k), 0, 1, 30, 31, Integer.MAX_VALUE);
    }

    private static Sheetengine withTokens(int many) {
        Sheetengine x = Twin.scene();
        x.rub(30);
        for (int k = 1; k <= many; k++) {
            x.token(6, 1, 0, 0);
        }
        return x;
    }

    private static void tokenOrder() {
        Check.due("token 30", withTokens(29).token(0, 1, 0, 0), 30);
        Twin.badState("token 31", () -> withTokens(30), x -> x.token(0, 1, 0, 0));
        Twin.badState("token 31 after rub(0)", () -> withTokens(30), x -> x.rub(0) + x.token(6, 9, 0, 0));
        Twin.badArgument("a wrong kind ahead of 30 tokens", () -> withTokens(30), x -> x.token(7, 0, 0, 0));
        Twin.badArgument("a wrong a ahead of 30 tokens", () -> withTokens(30), x -> x.token(6, 21, 0, 0));
        Twin.badArgument("a wrong held ahead of 30 tokens", () -> withTokens(30), x -> x.token(3, 0, 4, 0));
        Twin.badArgument("unlike sheets ahead of 30 tokens", () -> withTokens(30), x -> x.token(4, 239, 240, 0));
    }

    private static Sheetengine withFormula() {
        Sheetengine x = Twin.scene();
        x.rub(2);
        return x;
    }

    private static void placesOfChanges() {
        Twin.within("enter place", 0, 479, ThrowsTest::withFormula, (x, k) -> x.enter(k));
        Twin.within("number place", 0, 479, Twin::scene, (x, k) -> x.number(k, 1, 1));
        Twin.within("text place", 0, 479, Twin::scene, (x, k) -> x.text(k, 1));
        Twin.within("truth place", 0, 479, Twin::scene, (x, k) -> x.truth(k, false));
        Twin.within("clear place", 0, 479, Twin::scene, (x, k) -> x.clear(k));
        Twin.within("guard place", 0, 479, Twin::scene, (x, k) -> x.guard(k, true));
        Twin.within("guard place, no more", 0, 479, Twin::scene, (x, k) -> x.guard(k, false));
        Twin.within("form place", 0, 479, Twin::scene, (x, k) -> x.form(k, 0));
        Twin.within("form digits", -1, 3, Twin::scene, (x, k) -> x.form(0, k));
    }

    private static void putNumbers() {
        Twin.within("number top", -999999, 999999, Twin::scene, (x, k) -> x.number(0, k, 1));
        Twin.within("number bottom", 1, 999, Twin::scene, (x, k) -> x.number(0, 1, k));
        Twin.mayNot("number bottom", Twin::scene, (x, k) -> x.number(0, 0, k), 0, -1, -999);
        Twin.within("text which", 0, 99, Twin::scene, (x, k) -> x.text(0, k));
    }

    private static void fills() {
        Twin.within("fill from of the sheet 0", 0, 239, Twin::scene, (x, k) -> x.fill(k, 8, 9));
        Twin.within("fill from of the sheet 1", 240, 479, Twin::scene, (x, k) -> x.fill(k, 248, 249));
        Twin.within("fill one of the sheet 0", 0, 239, Twin::scene, (x, k) -> x.fill(0, k, 9));
        Twin.within("fill one of the sheet 1", 240, 479, Twin::scene, (x, k) -> x.fill(240, k, 249));
        Twin.within("fill other of the sheet 0", 0, 239, Twin::scene, (x, k) -> x.fill(0, 9, k));
        Twin.within("fill other of the sheet 1", 240, 479, Twin::scene, (x, k) -> x.fill(240, 249, k));
        Twin.badArgument("fill from of another sheet", Twin::scene, x -> x.fill(240, 0, 0));
        Twin.badArgument("fill one of another sheet", Twin::scene, x -> x.fill(0, 240, 0));
        Twin.badArgument("fill other of another sheet", Twin::scene, x -> x.fill(0, 0, 240));
        Twin.badArgument("fill both of another sheet", Twin::scene, x -> x.fill(0, 240, 240));
    }

    private static void goingOn() {
        Twin.within("goOn first", 0, 479, Twin::scene, (x, k) -> x.goOn(k, true, 1));
        Twin.within("goOn first to the right", 0, 479, Twin::scene, (x, k) -> x.goOn(k, false, 1));
        Twin.within("goOn many", 1, 28, Twin::scene, (x, k) -> x.goOn(0, true, k));
        Twin.within("goOn many to the right", 1, 28, Twin::scene, (x, k) -> x.goOn(0, false, k));
    }

    private static void names() {
        Twin.within("name", 0, 5, Twin::scene, (x, k) -> x.name(k, 0, 0));
        Twin.within("name no more", 0, 5, Twin::scene, (x, k) -> x.name(k, -1, 0));
        Twin.within("name one of the sheet 0", -1, 239, Twin::scene, (x, k) -> x.name(2, k, 0));
        Twin.may("name one of the sheet 1", Twin::scene, (x, k) -> x.name(2, k, 250), -1, 240, 479);
        Twin.mayNot("name one of the sheet 1", Twin::scene, (x, k) -> x.name(2, k, 250), -2, 239, 480);
        Twin.within("name other of the sheet 0", 0, 239, Twin::scene, (x, k) -> x.name(2, 9, k));
        Twin.within("name other of the sheet 1", 240, 479, Twin::scene, (x, k) -> x.name(2, 249, k));
        Twin.may("name other, not looked at", Twin::scene, (x, k) -> x.name(2, -1, k), Integer.MIN_VALUE, -2, -1, 480, Integer.MAX_VALUE);
    }

    private static void lines() {
        Twin.within("putIn sheet, a row", 0, 1, Twin::scene, (x, k) -> x.putIn(k, false, 0));
        Twin.within("putIn sheet, a column", 0, 1, Twin::scene, (x, k) -> x.putIn(k, true, 0));
        Twin.within("putIn row", 0, 29, Twin::scene, (x, k) -> x.putIn(0, false, k));
        Twin.within("putIn column", 0, 7, Twin::scene, (x, k) -> x.putIn(1, true, k));
        Twin.within("takeOut sheet, a row", 0, 1, Twin::scene, (x, k) -> x.takeOut(k, false, 0));
        Twin.within("takeOut sheet, a column", 0, 1, Twin::scene, (x, k) -> x.takeOut(k, true, 0));
        Twin.within("takeOut row", 0, 29, Twin::scene, (x, k) -> x.takeOut(1, false, k));
        Twin.within("takeOut column", 0, 7, Twin::scene, (x, k) -> x.takeOut(0, true, k));
    }

    private static void bounds() {
        Twin.within("bound place", 0, 479, Twin::scene, (x, k) -> x.bound(k, 0, 0));
        Twin.within("bound place, no more", 0, 479, Twin::scene, (x, k) -> x.bound(k, 0, -1));
        Twin.may("bound least", Twin::scene, (x, k) -> x.bound(0, k, 0), FAR);
        Twin.may("bound greatest", Twin::scene, (x, k) -> x.bound(0, 0, k), FAR);
    }

    private static void goals() {
        Twin.within("goal in", 0, 479, Twin::scene, (x, k) -> x.goal(k, k, 1, 1));
        Twin.within("goal out", 0, 479, Twin::scene, (x, k) -> x.goal(0, k, 1, 1));
        Twin.within("goal top", -999999, 999999, Twin::scene, (x, k) -> x.goal(0, 0, k, 1));
        Twin.within("goal bottom", 1, 999, Twin::scene, (x, k) -> x.goal(0, 0, 1, k));
        Twin.mayNot("goal bottom", Twin::scene, (x, k) -> x.goal(0, 0, 0, k), 0, -1);
    }

    private static void steps() {
        Twin.badState("undo of none", Sheetengine::new, Sheetengine::undo);
        Twin.badState("redo of none", Sheetengine::new, Sheetengine::redo);
        Twin.badState("undo of the eleventh", ThrowsTest::allUndone, Sheetengine::undo);
        Twin.badState("redo of the eleventh", ThrowsTest::allDoneAgain, Sheetengine::redo);
        Twin.badState("redo behind another change", () -> changed(Twin.scene()), Sheetengine::redo);
        Check.due("undo of the tenth", steps(allDoneAgain(), 10, true), "9 8 7 6 5 4 3 2 1 0");
        Check.due("redo of the tenth", steps(allUndone(), 10, false), "9 8 7 6 5 4 3 2 1 0");
    }

    private static Sheetengine changed(Sheetengine x) {
        x.clear(Check.at("h9"));
        return x;
    }

    private static String steps(Sheetengine x, int many, boolean isBack) {
        StringBuilder all = new StringBuilder();
        for (int k = 0; k < many; k++) {
            all.append(k == 0 ? "" : " ").append(isBack ? x.undo() : x.redo());
        }
        return all.toString();
    }

    private static Sheetengine allUndone() {
        Sheetengine x = Twin.scene();
        for (int k = 0; k < 9; k++) {
            x.number(Check.at("a9"), k, 1);
            x.clear(Check.at("a9"));
        }
        for (int k = 0; k < 10; k++) {
            x.undo();
        }
        return x;
    }

    private static Sheetengine allDoneAgain() {
        Sheetengine x = allUndone();
        for (int k = 0; k < 10; k++) {
            x.redo();
        }
        return x;
    }

    private static void placesOfQuestions() {
        Twin.within("value place", 0, 479, Twin::scene, (x, k) -> ":" + x.value(k));
        Twin.within("formula place", 0, 479, Twin::scene, (x, k) -> ":" + x.formula(k));
        Twin.within("shown place", 0, 479, Twin::scene, (x, k) -> ":" + x.shown(k));
        Twin.within("why place", 0, 479, Twin::scene, (x, k) -> ":" + x.why(k));
        Twin.within("reads place", 0, 479, Twin::scene, (x, k) -> x.reads(k, false));
        Twin.within("reads place, back", 0, 479, Twin::scene, (x, k) -> x.reads(k, true));
        for (int w = 0; w <= 9; w++) {
            int what = w;
            Twin.within("ofPlace " + what + " place", 0, 479, Twin::scene, (x, k) -> x.ofPlace(k, what));
        }
        Twin.within("ofPlace what", 0, 9, Twin::scene, (x, k) -> x.ofPlace(479, k));
        Twin.within("house what", 0, 9, Twin::scene, (x, k) -> x.house(k));
    }

    private static void rows() {
        Twin.within("sorted one of the sheet 0", 0, 239, Twin::scene, (x, k) -> x.sorted(k, 239, 0, false));
        Twin.within("sorted last of the sheet 0", 0, 239, Twin::scene, (x, k) -> x.sorted(7, k, 0, true));
        Twin.within("sorted last of the sheet 1", 240, 479, Twin::scene, (x, k) -> x.sorted(247, k, 0, true));
        Twin.within("sorted last, the row of one", 232, 239, Twin::scene, (x, k) -> x.sorted(236, k, 0, true));
        Twin.within("sorted one, the row of last", 0, 7, Twin::scene, (x, k) -> x.sorted(k, 4, 0, true));
        Twin.within("sorted column", 0, 7, Twin::scene, (x, k) -> x.sorted(0, 239, k, false));
        Twin.within("filtered one of the sheet 0", 0, 239, Twin::scene, (x, k) -> x.filtered(k, 239, 0, 5, 0));
        Twin.within("filtered last of the sheet 1", 240, 479, Twin::scene, (x, k) -> x.filtered(240, k, 0, 5, 0));
        Twin.within("filtered last, the row of one", 232, 239, Twin::scene, (x, k) -> x.filtered(236, k, 0, 5, 0));
        Twin.within("filtered one, the row of last", 0, 7, Twin::scene, (x, k) -> x.filtered(k, 4, 0, 5, 0));
        Twin.within("filtered column", 0, 7, Twin::scene, (x, k) -> x.filtered(0, 239, k, 6, 0));
        Twin.within("filtered word", 5, 8, Twin::scene, (x, k) -> x.filtered(0, 239, 0, k, 0));
        Twin.may("filtered number", Twin::scene, (x, k) -> x.filtered(0, 239, 0, 7, k), Integer.MIN_VALUE, -10000, 10000, Integer.MAX_VALUE);
        Twin.within("grouped one of the sheet 0", 0, 239, Twin::scene, (x, k) -> ":" + x.grouped(k, 239, 0, 1));
        Twin.within("grouped last of the sheet 1", 240, 479, Twin::scene, (x, k) -> ":" + x.grouped(240, k, 0, 1));
        Twin.within("grouped last, the row of one", 232, 239, Twin::scene, (x, k) -> ":" + x.grouped(236, k, 0, 0));
        Twin.within("grouped one, the row of last", 0, 7, Twin::scene, (x, k) -> ":" + x.grouped(k, 4, 0, 0));
        Twin.within("grouped column", 0, 7, Twin::scene, (x, k) -> ":" + x.grouped(0, 239, k, 1));
        Twin.within("grouped other", 0, 7, Twin::scene, (x, k) -> ":" + x.grouped(0, 239, 1, k));
    }

    private static void whatIf() {
        Twin.within("whatIf in", 0, 479, Twin::scene, (x, k) -> ":" + x.whatIf(k, 0, 1, 1, 1));
        Twin.within("whatIf out", 0, 479, Twin::scene, (x, k) -> ":" + x.whatIf(0, k, 1, 1, 1));
        Twin.within("whatIf from", -9999, 9999, Twin::scene, (x, k) -> x.whatIf(0, 4, k, 1, 1));
        Twin.within("whatIf step", -9999, 9999, Twin::scene, (x, k) -> x.whatIf(0, 4, 1, k, 1));
        Twin.within("whatIf many", 1, 8, Twin::scene, (x, k) -> x.whatIf(0, 4, 1, 1, k));
    }

    private static Sheetengine fullWithSlip() {
        Sheetengine x = Twin.full();
        x.rub(1);
        return x;
    }

    /** With 60 CELLS an EMPTY place can not be written, one with a CELL can; e7 is GUARDED, f7 has BOUNDS. */
    private static void full() {
        int empty = Check.at("1:h29");
        int guarded = Check.at("e7");
        int bounded = Check.at("f7");
        Twin.badState("enter, 60 cells", Twin::full, x -> x.enter(empty));
        Twin.badState("number, 60 cells", Twin::full, x -> x.number(empty, 1, 1));
        Twin.badState("text, 60 cells", Twin::full, x -> x.text(empty, 1));
        Twin.badState("truth, 60 cells", Twin::full, x -> x.truth(empty, true));
        Twin.badState("goal, 60 cells", Twin::full, x -> x.goal(empty, empty, 1, 1));
        Twin.badState("enter ahead of -9", Twin::full, x -> x.enter(guarded));
        Twin.badState("enter ahead of a slip", ThrowsTest::fullWithSlip, x -> x.enter(empty));
        Twin.badState("number ahead of -9 of a guard", Twin::full, x -> x.number(guarded, 1, 1));
        Twin.badState("number ahead of -9 of bounds", Twin::full, x -> x.number(bounded, 7, 1));
        Twin.badState("text ahead of -9", Twin::full, x -> x.text(guarded, 1));
        Twin.badState("truth ahead of -9", Twin::full, x -> x.truth(guarded, true));
        Twin.badState("goal ahead of -9 of a guard", Twin::full, x -> x.goal(guarded, guarded, 1, 1));
        Twin.badState("goal ahead of -9 of bounds", Twin::full, x -> x.goal(bounded, bounded, 9, 1));
        Twin.badState("goal ahead of -9 of what is out", Twin::full, x -> x.goal(empty, 0, 9, 1));
        for (int p : new int[] {0, Check.at("h6"), Check.at("d7")}) {
            Check.due("enter at " + p, Twin.full().enter(p), -1);
            Check.due("number at " + p, Twin.full().number(p, 2, 1), 0);
            Check.due("text at " + p, Twin.full().text(p, 1), 0);
            Check.due("truth at " + p, Twin.full().truth(p, true), 0);
            Check.due("goal at " + p, Twin.full().goal(p, p, 7, 1), "7");
        }
        Check.due("clear of an empty place", Twin.full().clear(empty), 0);
    }

    /** The arguments go ahead of 60 CELLS, and all exceptions ahead of SLIPS and -9. */
    private static void order() {
        int empty = Check.at("1:h29");
        int guarded = Check.at("e7");
        Twin.badArgument("number top ahead of 60 cells", Twin::full, x -> x.number(empty, 1000000, 1));
        Twin.badArgument("number bottom ahead of 60 cells", Twin::full, x -> x.number(empty, 1, 0));
        Twin.badArgument("text ahead of 60 cells", Twin::full, x -> x.text(empty, 100));
        Twin.badArgument("goal out ahead of 60 cells", Twin::full, x -> x.goal(empty, 480, 1, 1));
        Twin.badArgument("goal top ahead of 60 cells", Twin::full, x -> x.goal(empty, 0, -1000000, 1));
        Twin.badArgument("goal bottom ahead of 60 cells", Twin::full, x -> x.goal(empty, 0, 1, 1000));
        Twin.badArgument("number top ahead of -9", Twin::full, x -> x.number(guarded, -1000000, 1));
        Twin.badArgument("number bottom ahead of -9", Twin::full, x -> x.number(guarded, 1, 1000));
        Twin.badArgument("text ahead of -9", Twin::full, x -> x.text(guarded, -1));
        Twin.badArgument("fill ahead of -9", Twin::full, x -> x.fill(0, guarded, 240));
        Twin.badArgument("goOn ahead of -9", Twin::full, x -> x.goOn(guarded, true, 29));
        Twin.badArgument("goOn, too few, ahead of -9", Twin::full, x -> x.goOn(guarded, true, 0));
        Twin.badArgument("goal ahead of -9", Twin::full, x -> x.goal(guarded, 480, 1, 1));
        Twin.badArgument("putIn ahead of -9", ThrowsTest::withLast, x -> x.putIn(0, false, 30));
        Twin.badArgument("putIn of a column ahead of -9", ThrowsTest::withLast, x -> x.putIn(0, true, 8));
        Twin.badArgument("enter ahead of a slip", Twin::scene, x -> x.enter(480));
        Check.due("the scene's input has a slip", Twin.scene().enter(0), 3);
    }

    private static Sheetengine withLast() {
        Sheetengine x = Twin.scene();
        x.number(Check.at("h29"), 1, 1);
        return x;
    }
}
