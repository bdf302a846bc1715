/**
 * "CHANGES are all calls of the section «changes» but undo, redo and knock .. also if all is as it was": what counts
 * as a CHANGE and what not, what it has RECKONED, and that it is undone and done again. "The last 10 can be UNDONE."
 */
public final class UndoTest {
    private static final String ALL = "4 8 9 241";

    public static void main(String[] args) {
        changes();
        asItWas();
        minusNine();
        noChanges();
        input();
        lastTen();
        doneAgain();
        reckonedBySteps();
        Check.end();
    }

    private static int at(String place) {
        return Check.at(place);
    }

    private static Sheetengine withFormula() {
        Sheetengine x = Twin.scene();
        x.rub(2);
        return x;
    }

    /** Each CHANGE once: e0, a1, b1 and 1:b0 are the formulas without "#ring", g0 and h0 are a ring, h0 reads a0. */
    private static void changes() {
        Twin.change("enter over nothing", UndoTest::withFormula, x -> x.enter(at("h9")), -1, "79");
        Twin.change("enter over a cell", UndoTest::withFormula, x -> x.enter(at("c0")), -1, "2");
        Twin.change("enter that breaks a ring", UndoTest::withFormula, x -> x.enter(at("g0")), -1, "6 7");
        Twin.change("enter that makes a ring", UndoTest::withFormula, x -> x.enter(at("a0")), -1, "");
        Twin.change("number", Twin::scene, x -> x.number(at("a0"), 7, 2), 4, ALL);
        Twin.change("number over a formula", Twin::scene, x -> x.number(at("g0"), 7, 2), 1, "7");
        Twin.change("number over nothing", Twin::scene, x -> x.number(at("h29"), 7, 2), 0, "");
        Twin.change("text", Twin::scene, x -> x.text(at("1:a0"), 9), 2, "8 241");
        Twin.change("truth", Twin::scene, x -> x.truth(at("a0"), false), 4, ALL);
        Twin.change("clear", Twin::scene, x -> x.clear(at("a0")), 4, ALL);
        Twin.change("clear of a formula", Twin::scene, x -> x.clear(at("1:b0")), 1, "8");
        Twin.change("fill of a formula", Twin::scene, x -> x.fill(at("b1"), at("b2"), at("b3")), 2, "17 25");
        Twin.change("fill of a constant", Twin::scene, x -> x.fill(at("c0"), at("a0"), at("a0")), 1, ALL);
        Twin.change("fill of nothing", Twin::scene, x -> x.fill(at("h9"), at("a0"), at("a1")), 2, "4 9 241");
        Twin.change("goOn", UndoTest::withTwo, x -> x.goOn(at("h10"), true, 2), "4", "79");
        Twin.change("name", Twin::scene, x -> x.name(5, 0, 0), 0, ALL);
        Twin.change("name told no more", Twin::scene, x -> x.name(2, -1, 0), 1, ALL);
        Twin.change("putIn of a row", Twin::scene, x -> x.putIn(0, false, 1), 2, "4 16 17 241");
        Twin.change("putIn of a column", UndoTest::narrow, x -> x.putIn(0, true, 1), 2, "8 10");
        Twin.change("takeOut of a row", Twin::scene, x -> x.takeOut(0, false, 1), 2, "4 241");
        Twin.change("takeOut of a column", Twin::scene, x -> x.takeOut(1, true, 0), 1, "4 8 9 240");
        Twin.change("guard", Twin::scene, x -> x.guard(at("a0"), true), 0, "");
        Twin.change("guard no more", Twin::scene, x -> x.guard(at("b0"), false), 1, "");
        Twin.change("bound", Twin::scene, x -> x.bound(at("a0"), 1, 2), 0, "");
        Twin.change("bound no more", Twin::scene, x -> x.bound(at("d2"), 2, 1), 1, "");
        Twin.change("form", Twin::scene, x -> x.form(at("b0"), 0), -1, "");
        Twin.change("form no more", Twin::scene, x -> x.form(at("a0"), -1), 2, "");
        Twin.change("goal", Twin::scene, x -> x.goal(at("a0"), at("e0"), 0, 1), "-5/4", ALL);
        Twin.change("goal over a ring", Twin::scene, x -> x.goal(at("g0"), at("h0"), 0, 1), "-1/2", "7");
    }

    /** 1 and 2 one below the other, and a formula that READS what comes as the second one behind them. */
    private static Sheetengine withTwo() {
        Sheetengine x = Twin.scene();
        x.rub(30);
        x.number(at("h10"), 1, 1);
        x.number(at("h11"), 2, 1);
        Check.enter(x, "h9", "h13+1");
        x.clear(at("h29"));
        x.undo();
        return x;
    }

    private static Sheetengine narrow() {
        Sheetengine x = new Sheetengine();
        x.number(at("b0"), 1, 1);
        Check.enter(x, "b1", "b0");
        Check.enter(x, "a1", "b1");
        return x;
    }

    /** Each CHANGE by which all stays as it was. */
    private static void asItWas() {
        Twin.change("the same number", Twin::scene, x -> x.number(at("a0"), 2, 4), 0, "");
        Twin.change("the same text", Twin::scene, x -> x.text(at("c0"), 7), 0, "");
        Twin.change("the same truth", UndoTest::withTruth, x -> x.truth(at("h9"), true), 0, "");
        Twin.change("clear of nothing", Twin::scene, x -> x.clear(at("h29")), 0, "");
        Twin.change("the same formula", UndoTest::withTyped, x -> x.enter(at("h9")), -1, "79");
        Twin.change("a formula for a number that is alike", UndoTest::withTyped, x -> x.enter(at("a9")), -1, "72");
        Twin.change("a number for a formula that is alike", UndoTest::withTyped, x -> x.number(at("h9"), 1, 2), 0, "");
        Twin.change("fill to itself alone", Twin::scene, x -> x.fill(at("a0"), at("a0"), at("a0")), 0, "");
        Twin.change("fill of a guarded place to itself alone", Twin::scene, x -> x.fill(at("b0"), at("b0"), at("b0")), 0, "");
        Twin.change("fill of nothing to nothing", Twin::scene, x -> x.fill(at("h9"), at("g8"), at("h9")), 3, "");
        Twin.change("fill of the same", UndoTest::withSame, x -> x.fill(at("h9"), at("h9"), at("h11")), 2, "");
        Twin.change("fill of the same formula", UndoTest::withHeld, x -> x.fill(at("h9"), at("h9"), at("h11")), 2, "87 95");
        Twin.change("goOn with the same", UndoTest::goneOn, x -> x.goOn(at("h10"), true, 2), "4", "");
        Twin.change("the same name", Twin::scene, x -> x.name(2, at("a0"), at("b0")), 1, ALL);
        Twin.change("no name told no more", Twin::scene, x -> x.name(3, -1, 0), 0, ALL);
        Twin.change("putIn of the last row", Twin::scene, x -> x.putIn(0, false, 29), 0, ALL);
        Twin.change("putIn of the last column", Twin::scene, x -> x.putIn(1, true, 7), 0, ALL);
        Twin.change("putIn of nothing into nothing", Sheetengine::new, x -> x.putIn(0, false, 0), 0, "");
        Twin.change("takeOut of the last row", Twin::scene, x -> x.takeOut(0, false, 29), 0, ALL);
        Twin.change("takeOut of the last column", Twin::scene, x -> x.takeOut(1, true, 7), 0, ALL);
        Twin.change("takeOut of nothing from nothing", Sheetengine::new, x -> x.takeOut(1, true, 0), 0, "");
        Twin.change("a guard again", Twin::scene, x -> x.guard(at("b0"), true), 1, "");
        Twin.change("no guard again", Twin::scene, x -> x.guard(at("a0"), false), 0, "");
        Twin.change("the same bounds", Twin::scene, x -> x.bound(at("d2"), -3, 3), 1, "");
        Twin.change("no bounds again", Twin::scene, x -> x.bound(at("a0"), 1, 0), 0, "");
        Twin.change("the same form", Twin::scene, x -> x.form(at("a0"), 2), 2, "");
        Twin.change("no form again", Twin::scene, x -> x.form(at("b0"), -1), -1, "");
        Twin.change("a goal that is met already", Twin::scene, x -> x.goal(at("a0"), at("e0"), 7, 2), "1/2", "");
    }

    private static Sheetengine withTruth() {
        Sheetengine x = Twin.scene();
        x.truth(at("h9"), true);
        return x;
    }

    /** h9 is the formula a0, a9 its VALUE, and a0 is typed again. */
    private static Sheetengine withTyped() {
        Sheetengine x = withFormula();
        x.enter(at("h9"));
        x.number(at("a9"), 1, 2);
        Check.type(x, "a0");
        return x;
    }

    private static Sheetengine withSame() {
        Sheetengine x = Twin.scene();
        for (String place : new String[] {"h9", "h10", "h11"}) {
            x.number(at(place), 2, 3);
        }
        return x;
    }

    private static Sheetengine withHeld() {
        Sheetengine x = Twin.scene();
        x.rub(30);
        for (String place : new String[] {"h9", "h10", "h11"}) {
            Check.enter(x, place, "$a$0");
        }
        return x;
    }

    private static Sheetengine goneOn() {
        Sheetengine x = withTwo();
        x.goOn(at("h10"), true, 2);
        return x;
    }

    /** "-9" as the text of a NUMBER is no refusal. */
    private static void minusNine() {
        Twin.change("goOn to the number -9", UndoTest::toMinusNine, x -> x.goOn(at("h10"), true, 2), "-9", "79");
        Twin.change("a goal that is -9", Twin::scene, x -> x.goal(at("a0"), at("a0"), -9, 1), "-9", ALL);
        Twin.change("a goal that is -9 on the way", Twin::scene, x -> x.goal(at("a0"), at("e0"), -31, 2), "-9", ALL);
    }

    private static Sheetengine toMinusNine() {
        Sheetengine x = withTwo();
        x.number(at("h10"), -3, 1);
        x.number(at("h11"), -5, 1);
        return x;
    }

    /** What is no CHANGE leaves what can be undone and done again, and what was RECKONED. */
    private static void noChange(String what, Twin.Act act, Object due) {
        Sheetengine x = Twin.scene();
        Sheetengine y = Twin.scene();
        Check.due(what, Twin.answer(x, act), String.valueOf(due));
        Check.due(what + " is no change", x.house(7) + " " + x.house(8), y.house(7) + " " + y.house(8));
        Check.due(what + " reckons nothing", x.reckoned(), y.reckoned());
        Twin.same(what + " leaves the sheets", Twin.state(x), Twin.state(y));
        Check.due(what + ", then redo", x.redo() + " " + x.redo(), y.redo() + " " + y.redo());
        Twin.same(what + ", done again", Twin.state(x), Twin.state(y));
    }

    private static void noChanges() {
        Check.due("what can be undone and done again", Twin.scene().house(7) + " " + Twin.scene().house(8), "8 2");
        noChange("knock", Sheetengine::knock, 2);
        noChange("token", x -> x.token(0, 5, 0, 0), 4);
        noChange("rub of one", x -> x.rub(1), 2);
        noChange("rub of all", x -> x.rub(30), 0);
        noChange("enter with a slip", x -> x.enter(0), 3);
        noChange("number, refused", x -> x.number(at("b0"), 1, 1), -9);
        noChange("number that throws", x -> x.number(at("b0"), 1, 0), "throws.IllegalArgumentException");
        noChange("goal, refused", x -> x.goal(at("b0"), at("b0"), 1, 1), "-9");
        noChange("goOn, refused", x -> x.goOn(at("a0"), true, 1), "-9");
        Sheetengine x = Twin.scene();
        x.knock();
        x.undo();
        x.undo();
        Check.due("a knock is not undone", x.knock() + x.house(9), 6);
    }

    /** The INPUT is emptied by enter alone; steps and lines put in or taken out do not touch it. */
    private static void input() {
        Sheetengine x = withFormula();
        x.putIn(0, false, 0);
        Check.due("input behind putIn", x.input(), "a0");
        x.takeOut(0, false, 0);
        x.putIn(1, true, 0);
        x.takeOut(1, true, 0);
        Check.due("input behind takeOut", x.input(), "a0");
        Check.due("enter", x.enter(at("h9")), -1);
        Check.due("input behind enter", x.input(), "");
        Check.due("slip behind enter", x.slip(), 0);
        Check.type(x, "b0");
        x.undo();
        Check.due("input behind undo", x.input(), "b0");
        Check.due("what was entered went", x.formula(at("h9")), "");
        x.redo();
        Check.due("input behind redo", x.input(), "b0");
        Check.due("what was entered came", x.formula(at("h9")), "=a0");
        Check.due("the input can be entered then", x.enter(at("h10")) + x.formula(at("h10")), "-1=b0");
    }

    /** As many CHANGES as are told, all of them undone: what is left, and how many were undone. */
    private static String undone(int many) {
        Sheetengine x = new Sheetengine();
        for (int k = 1; k <= many; k++) {
            x.number(0, k, 1);
        }
        int steps = 0;
        while (x.house(7) > 0 && steps < 99) {
            x.undo();
            steps++;
        }
        return x.value(0) + ":" + steps;
    }

    private static void lastTen() {
        Check.due("1 undone", undone(1), ":1");
        Check.due("9 undone", undone(9), ":9");
        Check.due("10 undone", undone(10), ":10");
        Check.due("10 of 11 undone", undone(11), "1:10");
        Check.due("10 of 12 undone", undone(12), "2:10");
        Check.due("10 of 21 undone", undone(21), "11:10");
        Check.due("10 of 33 undone", undone(33), "23:10");
        Sheetengine x = new Sheetengine();
        for (int k = 1; k <= 11; k++) {
            x.number(0, k, 1);
        }
        for (int k = 0; k < 4; k++) {
            x.undo();
        }
        x.number(0, 70, 1);
        Check.due("one more behind 6", x.house(7) + " " + x.house(8), "7 0");
        for (int k = 0; k < 3; k++) {
            x.number(0, 80 + k, 1);
        }
        Check.due("10 again", x.house(7), 10);
        x.number(0, 90, 1);
        Check.due("the oldest is lost", x.house(7), 10);
        StringBuilder all = new StringBuilder();
        for (int k = 0; k < 10; k++) {
            x.undo();
            all.append(x.value(0)).append(' ');
        }
        Check.due("what stood there", all.toString(), "82 81 80 70 7 6 5 4 3 2 ");
        Check.badState("lost for good", x::undo);
    }

    private static void doneAgain() {
        Sheetengine x = new Sheetengine();
        for (int k = 1; k <= 10; k++) {
            x.number(0, k, 1);
        }
        StringBuilder all = new StringBuilder();
        for (int round = 0; round < 3; round++) {
            for (int k = 9; k >= 0; k--) {
                Check.due("undo", x.undo(), k);
                Check.due("what can be done again", x.house(8), 10 - k);
            }
            all.append(x.value(0)).append('.');
            for (int k = 9; k >= 0; k--) {
                Check.due("redo", x.redo(), k);
                Check.due("what can be undone", x.house(7), 10 - k);
            }
            all.append(x.value(0)).append(' ');
        }
        Check.due("to and fro", all.toString(), ".10 .10 .10 ");
        Check.badState("done again already", x::redo);
        x.undo();
        x.undo();
        x.redo();
        Check.due("one done again", x.value(0) + " " + x.house(7) + " " + x.house(8), "9 9 1");
        x.guard(479, false);
        Check.due("another change", x.house(7) + " " + x.house(8), "10 0");
        Check.badState("not any more", x::redo);
        x.undo();
        Check.due("that is undone", x.value(0) + " " + x.house(7) + " " + x.house(8), "9 9 1");
    }

    private static void reckonedBySteps() {
        Sheetengine x = Twin.scene();
        x.undo();
        Check.due("by undoing all but the ring", x.reckoned(), ALL);
        for (int p : new int[] {0, 1, 4, 6, 7, 8, 9, 79, 241}) {
            Check.due("by undoing " + p, x.ofPlace(p, 9), (" " + ALL + " ").contains(" " + p + " ") ? 1 : 0);
        }
        x.redo();
        Check.due("by doing again all but the ring", x.reckoned(), ALL);
        x.form(0, 1);
        Check.due("by a form none", x.reckoned() + x.ofPlace(4, 9), "0");
        x.undo();
        Check.due("by undoing a form all", x.reckoned() + x.ofPlace(4, 9), ALL + "1");
        x.clear(at("g0"));
        Check.due("the ring is broken", x.reckoned(), "7");
        x.undo();
        Check.due("the ring is back", x.reckoned(), ALL);
        x.redo();
        Check.due("the ring is broken again", x.reckoned(), "4 7 8 9 241");
        Sheetengine y = new Sheetengine();
        y.number(0, 1, 1);
        y.undo();
        Check.due("by undoing to nothing", y.reckoned(), "");
    }
}
