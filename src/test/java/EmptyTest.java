/** EMPTY places and nothing at all: in formulas, in AREAS, and where it is asked or changed. */
public final class EmptyTest {
    public static void main(String[] args) {
        asked();
        operands();
        joined();
        functions();
        areas();
        unlikeZero();
        cameAndWent();
        rows();
        ofNothing();
        Check.end();
    }

    private static int at(String place) {
        return Check.at(place);
    }

    /** An EMPTY PLACE in a new object, and one that a formula READS and that is GUARDED, bounded and formed. */
    private static void asked() {
        Sheetengine x = new Sheetengine();
        Twin.type(x, "a0", "h9&1");
        x.guard(at("h9"), true);
        x.bound(at("h9"), 1, 2);
        x.form(at("h9"), 3);
        for (int p : new int[] {at("h9"), at("g9"), 479}) {
            boolean isRead = p == at("h9");
            Check.due("what is told of " + p, x.value(p) + x.formula(p) + x.shown(p) + x.reads(p, false), "");
            Check.due("why " + p, x.why(p), " = ");
            Check.due("who reads " + p, x.reads(p, true), isRead ? "0" : "");
            int[] due = {0, 0, 0, 0, 0, isRead ? 1 : 0, isRead ? 1 : 0, isRead ? 1 : 0, isRead ? 3 : -1, 0};
            for (int what = 0; what <= 9; what++) {
                Check.due("ofPlace(" + p + ", " + what + ")", x.ofPlace(p, what), due[what]);
            }
        }
        Check.due("it is no cell", x.house(0) + " " + x.ofPlace(0, 4) + " " + x.ofPlace(0, 2), "1 0 0");
        Check.due("why of what reads it", x.why(0), "=h9&1 = 1");
    }

    private static void is(String formula, String due) {
        Sheetengine x = new Sheetengine();
        Check.due("value of " + formula, Check.valueOf(x, formula), due);
    }

    private static void operands() {
        is("a0", "0");
        is("(a0)", "0");
        is("((1:h29))", "0");
        is("-a0", "0");
        is("--a0", "0");
        is("-(a0)", "0");
        is("a0+a1", "0");
        is("a0+5", "5");
        is("5-a0", "5");
        is("a0-5", "-5");
        is("a0*5", "0");
        is("a0/5", "0");
        is("5/a0", "#zero");
        is("a0/a0", "#zero");
        is("a0+w1", "#kind");
        is("a0=0", "true");
        is("a0=a1", "true");
        is("a0#a1", "false");
        is("a0=w0", "false");
        is("a0=false", "false");
        is("a0#false", "true");
        is("a0<1", "true");
        is("a0<0", "false");
        is("a0<=a1", "true");
        is("-1<a0", "true");
        is("a0<w1", "#kind");
        is("true<a0", "#kind");
    }

    private static void joined() {
        is("a0&a1", "");
        is("a0&w1", "w1");
        is("w1&a0", "w1");
        is("(a0)&w1", "w1");
        is("((a0))&((a1))&5", "5");
        is("-a0&w1", "0w1");
        is("(-a0)&w1", "0w1");
        is("a0+a1&w1", "0w1");
        is("(a0&a1)&w1", "w1");
        is("a0&true", "true");
        is("a0&(a1=0)", "true");
        is("a0&a1=a2", "false");
        is("a0&a1=a2&a3", "true");
        is("a0&a1<w0", "true");
        is("(a0&a1)+1", "#kind");
        is("-(a0&a1)", "#kind");
    }

    private static void functions() {
        is("if(true,a0,1)", "0");
        is("if(false,1,a0)", "0");
        is("if(true,a0,1)&w1", "0w1");
        is("if(false,1,(a0))&w1", "0w1");
        is("if(a0,1,2)", "#kind");
        is("if(a0=0,1,2)", "1");
        is("not(a0)", "#kind");
        is("isfault(a0)", "false");
        is("isfault((a0))", "false");
        is("isfault(a0&a1)", "false");
        is("sum(a0)&w1", "0w1");
        is("look(a0,a1..b2,1)", "#none");
        is("look(1,a1..b2,a0)", "#place");
        is("countif(a1..b2,a0)", "0");
        is("countif(a1..b2,a0&a0)", "0");
    }

    private static void areas() {
        for (String area : new String[] {"a0", "a0..a0", "a0..h19", "1:a0..h29"}) {
            is("sum(" + area + ")", "0");
            is("count(" + area + ")", "0");
            is("least(" + area + ")", "#none");
            is("most(" + area + ")", "#none");
            is("countif(" + area + ",0)", "0");
            is("look(0," + area + ",1)", "#none");
            is("isfault(least(" + area + "))", "true");
        }
        Sheetengine x = new Sheetengine();
        x.number(at("a0"), -3, 1);
        x.text(at("b1"), 1);
        Check.due("least beside nothing", Check.valueOf(x, "least(a0..c2)"), "-3");
        Check.due("most beside nothing", Check.valueOf(x, "most(a0..c2)"), "-3");
        Check.due("most is not 0", Check.valueOf(x, "most(a0..h19)"), "-3");
        Check.due("least of texts and nothing", Check.valueOf(x, "least(b0..c2)"), "#none");
        Check.due("sum of texts and nothing", Check.valueOf(x, "sum(b0..c2)&count(b0..c2)"), "00");
        Check.due("the k-th value is empty", Check.valueOf(x, "look(-3,a0..c2,2)"), "0");
        Check.due("the k-th value is empty, joined", Check.valueOf(x, "look(-3,a0..c2,3)&w1"), "0w1");
        Check.due("the first value is a text", Check.valueOf(x, "look(w1,b0..c2,2)"), "0");
    }

    /** In an AREA an EMPTY place is not alike with 0, nor with "". */
    private static void unlikeZero() {
        Sheetengine x = new Sheetengine();
        x.number(at("a1"), 0, 5);
        x.text(at("b1"), 8);
        Check.enter(x, "a2", "g9&g9");
        x.text(at("b2"), 9);
        Check.due("countif of 0", Check.valueOf(x, "countif(a0..a5,0)"), "1");
        Check.due("countif of nothing", Check.valueOf(x, "countif(a0..a5,g9)"), "1");
        Check.due("countif of an empty text", Check.valueOf(x, "countif(a0..a5,g9&g9)"), "1");
        Check.due("look of 0", Check.valueOf(x, "look(0,a0..b5,2)"), "w8");
        Check.due("look of nothing", Check.valueOf(x, "look(g9,a0..b5,2)"), "w8");
        Check.due("look of an empty text", Check.valueOf(x, "look(g9&g9,a0..b5,2)"), "w9");
        Check.due("count", Check.valueOf(x, "count(a0..a5)"), "1");
    }

    /** "A PLACE that came or went counts as EMPTY ahead or behind." */
    private static void cameAndWent() {
        Sheetengine x = new Sheetengine();
        Check.enter(x, "b0", "a0*0");
        Check.enter(x, "c0", "b0");
        Check.enter(x, "d0", "sum(a0..a9)");
        Check.due("a 0 came", x.number(at("a0"), 0, 1) + ":" + x.reckoned(), "2:1 3");
        Check.due("a 0 went", x.clear(at("a0")) + ":" + x.reckoned(), "2:1 3");
        Check.due("nothing went", x.clear(at("a0")) + ":" + x.reckoned(), "0:");
        Check.due("a text came", x.text(at("a9"), 1) + ":" + x.reckoned(), "1:3");
        Check.due("a text went by fill", x.fill(at("h9"), at("a9"), at("b9")) + ":" + x.reckoned(), "2:3");
        Check.enter(x, "a9", "g9");
        Check.due("a formula came", x.reckoned(), "3 72");
        Check.due("a formula went", x.clear(at("a9")) + ":" + x.reckoned(), "1:3");
        Check.enter(x, "a9", "a9");
        Check.due("a ring came", x.reckoned(), "");
        Check.due("a ring went", x.clear(at("a9")) + ":" + x.reckoned(), "1:3");
        x.number(at("a0"), 1, 1);
        x.number(at("a1"), 1, 1);
        Check.due("goOn, 7 came", x.goOn(at("a0"), true, 7) + ":" + x.reckoned(), "1:3");
        Check.due("value", x.value(at("d0")), "9");
        Check.due("a goal came", x.goal(at("a9"), at("d0"), 9, 1) + ":" + x.reckoned(), "0:3");
    }

    private static void rows() {
        Sheetengine x = new Sheetengine();
        x.number(at("a1"), 0, 1);
        x.number(at("b1"), 5, 1);
        x.number(at("b2"), 6, 1);
        x.text(at("a3"), 1);
        Check.enter(x, "a4", "1/0");
        Check.due("sorted", x.sorted(0, at("a5"), 0, false), "1 3 4 0 2 5");
        Check.due("sorted, falling", x.sorted(0, at("a5"), 0, true), "0 2 5 4 3 1");
        Check.due("= 0", x.filtered(0, at("a5"), 0, 5, 0), "0 1 2 5");
        Check.due("# 0", x.filtered(0, at("a5"), 0, 6, 0), "3");
        Check.due("# 1", x.filtered(0, at("a5"), 0, 6, 1), "0 1 2 3 5");
        Check.due("< 0", x.filtered(0, at("a5"), 0, 7, 0), "");
        Check.due("< 1", x.filtered(0, at("a5"), 0, 7, 1), "0 1 2 5");
        Check.due("<= 0", x.filtered(0, at("a5"), 0, 8, 0), "0 1 2 5");
        Check.due("<= -1", x.filtered(0, at("a5"), 0, 8, -1), "");
        Check.due("grouped", x.grouped(0, at("a5"), 0, 1), "#zero:0 -:6 0:5 w1:0");
        Check.due("grouped by nothing", x.grouped(0, at("a5"), 7, 1), "-:11");
        Check.due("grouped with nothing", x.grouped(0, at("a5"), 0, 7), "#zero:0 -:0 0:0 w1:0");
    }

    /** What is EMPTY can be filled, gone on from, sought and cleared. */
    private static void ofNothing() {
        Sheetengine x = new Sheetengine();
        Check.due("fill", x.fill(0, 0, 239) + x.house(0), 239);
        Check.due("goOn", x.goOn(0, true, 1) + x.goOn(0, false, 1), "-9-9");
        Check.due("goal", x.goal(0, 1, 0, 1) + x.goal(0, 0, 0, 1), "-90");
        Check.due("clear", x.clear(0) + x.clear(0) + x.house(0), 0);
        Check.due("whatIf", x.whatIf(0, 1, 1, 1, 1) + "." + x.whatIf(0, 1, 1, 1, 2) + "." + x.whatIf(0, 0, 0, 0, 1), ". .0");
        Check.due("putIn and takeOut", x.putIn(0, false, 0) + x.takeOut(0, false, 0) + x.putIn(1, true, 7) + x.takeOut(1, true, 7), 0);
        Check.due("name", x.name(0, -1, -1) + x.name(0, 479, 479) + x.house(5), 1);
        Check.due("rub", x.rub(0) + x.rub(5), 0);
        Check.due("enter", x.enter(0) + x.slip(), 0);
        Check.due("all of it", x.input() + x.reckoned() + x.house(4), "-1");
        Check.due("sound", x.isSound(), true);
    }
}
