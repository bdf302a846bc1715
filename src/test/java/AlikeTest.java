import java.math.BigInteger;

/**
 * "Two VALUES are alike, if they are of one kind, and their texts are the same": NUMBERS that differ in one of
 * their digits alone, first or last, in top or bottom, and VALUES of unlike kinds with the same text.
 */
public final class AlikeTest {
    public static void main(String[] args) {
        everyDigit();
        asKth();
        kinds();
        handedOn();
        counted();
        lookedUp();
        keys();
        wideBounds();
        reckoned();
        Check.end();
    }

    private static int at(String place) {
        return Check.at(place);
    }

    /** In the column a powers of 2: a0 is 2 to the 15, a1 2 to the 30, a2 2 to the 60, a3 2 to the 90, a4 2 to the 105, a5 2 to the 119. */
    private static Sheetengine powers() {
        Sheetengine x = new Sheetengine();
        x.number(at("a0"), 32768, 1);
        Check.enter(x, "a1", "a0*a0");
        Check.enter(x, "a2", "a1*a1");
        Check.enter(x, "a3", "a2*a1");
        Check.enter(x, "a4", "a3*a0");
        Check.enter(x, "a5", "a4*(a0/2)");
        return x;
    }

    private static void everyDigit() {
        Sheetengine x = powers();
        Check.due("2 to the 119", x.value(at("a5")), BigInteger.TWO.pow(119).toString());
        for (int k = 0; k <= 5; k++) {
            Check.enter(x, "b0", "a" + k + "+1");
            Check.enter(x, "b1", "1+a" + k);
            Check.enter(x, "b2", "1");
            Check.enter(x, "b3", "1/b0");
            Check.enter(x, "b4", "1/b1");
            Check.enter(x, "b5", "-b0");
            Check.enter(x, "c0", "(b0=b1)&(b3=b4)&(b5=-b1)&(b3+0=b4*1)");
            Check.due("alike with the digit " + k, x.value(at("c0")), "truetruetruetrue");
            Check.enter(x, "c0", "(b0=b2)&(b0=a" + k + ")&(b3=b2)&(b0=b5)");
            Check.due("unlike with the digit " + k, x.value(at("c0")), "falsefalsefalsefalse");
            Check.enter(x, "c0", "(b0#b2)&(b3#1)&(b3#1/a" + k + ")&(b3#b0)");
            Check.due("unlike with the digit " + k, x.value(at("c0")), "truetruetruetrue");
            Check.enter(x, "c0", "(b2<b0)&(b0<b2)&(b3<b2)&(b5<b0)");
            Check.due("by size with the digit " + k, x.value(at("c0")), "truefalsetruetrue");
        }
        for (int k = 0; k <= 4; k++) {
            Check.enter(x, "b0", "1/(a" + k + "+1)");
            Check.enter(x, "b1", "1/(a" + (k + 1) + "+1)");
            Check.enter(x, "c0", "(b0=b1)&(b1<b0)&(b0<=b1)");
            Check.due("bottoms " + k, x.value(at("c0")), "falsetruefalse");
            Check.enter(x, "b0", "a" + k + "+1");
            Check.enter(x, "b1", "a" + (k + 1) + "+1");
            Check.enter(x, "c0", "(b0=b1)&(b0<b1)&(b1<=b0)");
            Check.due("tops " + k, x.value(at("c0")), "falsetruefalse");
        }
    }

    /** What look() takes as the k-th is one of 1 to 8, not a NUMBER that ends like it. */
    private static void asKth() {
        Sheetengine x = powers();
        for (int c = 0; c < 8; c++) {
            x.number(at("a10") + c, c + 1, 1);
        }
        for (int c = 1; c <= 8; c++) {
            Check.due("the column " + c, Check.valueOf(x, "look(1,a10..h10," + c + ")"), "" + c);
            Check.due("the column " + c + ", a fraction", Check.valueOf(x, "look(1,a10..h10," + 2 * c + "/2)"), "" + c);
        }
        for (String k : new String[] {"0", "9", "-1", "a1+1", "a2+1", "a3+1", "a5+1", "1/(a1+1)", "1/(a2+1)", "1/(a3+1)", "1/(a5+1)",
            "1/2", "3/2", "true", "w1", "1&f29"}) {
            Check.due("the column " + k, Check.valueOf(x, "look(1,a10..h10," + k + ")"), "#place");
        }
        Check.due("the last of three", Check.valueOf(x, "look(3,c10..e10,3)"), "5");
        Check.due("the fourth of three", Check.valueOf(x, "look(3,c10..e10,4)"), "#place");
        Check.due("the first of one", Check.valueOf(x, "look(8,h10..h10,1)"), "8");
        Check.due("the second of one", Check.valueOf(x, "look(8,h10,2)"), "#place");
    }

    private static void kinds() {
        Sheetengine x = new Sheetengine();
        x.number(at("a0"), 1, 2);
        Check.enter(x, "a1", "1/2&g9");
        x.truth(at("a2"), true);
        Check.enter(x, "a3", "true&g9");
        Check.due("the same texts", x.value(at("a0")).equals(x.value(at("a1"))) && x.value(at("a2")).equals(x.value(at("a3"))), true);
        Check.due("of unlike kinds", Check.valueOf(x, "(a0=a1)&(a2=a3)"), "falsefalse");
        Check.due("of unlike kinds", Check.valueOf(x, "(a0#a1)&(a2#a3)"), "truetrue");
        Check.due("counted", Check.valueOf(x, "countif(a0..a3,a0)&countif(a0..a3,a1)&countif(a0..a3,a2)&countif(a0..a3,a3)"), "1111");
        Check.due("looked up", Check.valueOf(x, "look(a1,a0..a3,1)&look(a3,a0..a3,1)"), "1/2true");
        Check.due("in lowest terms", Check.valueOf(x, "(a0=2/4)&(a0=-3/-6)&(0/7=-0)"), "truetruetrue");
        Check.due("texts by all their signs", Check.valueOf(x, "(w1=w1)&(w1=w10)&(w10=w1)&(w1&w0=w1&w0)"), "truefalsefalsetrue");
    }

    /** VALUES of 120 binary digits handed on by functions. */
    private static void handedOn() {
        Sheetengine x = powers();
        Check.enter(x, "b0", "(a5-1)/(a5-2)");
        Check.enter(x, "b1", "-1/(a5+1)");
        String due = x.value(at("b0"));
        BigInteger half = BigInteger.TWO.pow(119);
        Check.due("the fraction", due, half.subtract(BigInteger.ONE) + "/" + half.subtract(BigInteger.TWO));
        Check.due("by if", Check.valueOf(x, "if(true,b0,1)") + Check.valueOf(x, "if(false,1,b0)"), due + due);
        Check.due("by least", Check.valueOf(x, "least(b1..c1)"), "-1/" + half.add(BigInteger.ONE));
        Check.due("by most", Check.valueOf(x, "most(b0..b1)"), due);
        Check.due("by look", Check.valueOf(x, "look(b0,b0..c1,1)"), due);
        Check.due("by sum", Check.valueOf(x, "sum(b0..c0)"), due);
        Check.due("by two signs ahead", Check.valueOf(x, "--b0"), due);
        Check.due("by brackets", Check.valueOf(x, "((b0))"), due);
        Check.due("by a goal", x.goal(at("c5"), at("c5"), 1, 3) + x.fill(at("c5"), at("d5"), at("d5")) + x.value(at("d5")), "1/311/3");
        x.putIn(0, false, 0);
        Check.due("by moving", x.value(at("b1")), due);
        x.undo();
        Check.due("by undoing", x.value(at("b0")), due);
    }

    private static void counted() {
        Sheetengine x = new Sheetengine();
        for (int c = 0; c < 8; c++) {
            x.number(at("a0") + c, 5, 1);
            x.number(at("a1") + c, 5 + c % 2, 1);
        }
        Check.due("eight in a row", Check.valueOf(x, "countif(a0..h0,5)"), "8");
        Check.due("in two rows", Check.valueOf(x, "countif(a0..h1,5)&countif(a0..h1,6)"), "124");
        Check.due("in a column", Check.valueOf(x, "countif(b0..b1,5)&countif(b0..b1,6)"), "11");
        Check.due("counted and summed up", Check.valueOf(x, "count(a0..h1)&sum(a0..h1)&count(b0..b1)&sum(b0..b1)"), "1684211");
        Check.due("least and most", Check.valueOf(x, "least(a0..h1)&most(a0..h1)&least(b1..b1)"), "566");
    }

    private static void lookedUp() {
        Sheetengine x = new Sheetengine();
        for (int r = 1; r < 30; r++) {
            x.number(240 + 8 * r + 2, r / 2, 1);
            x.number(240 + 8 * r + 3, r, 1);
        }
        Check.due("the first of two rows", Check.valueOf(x, "look(7,1:c0..d29,2)"), "14");
        Check.due("the first row", Check.valueOf(x, "look(0,1:c0..d29,2)"), "1");
        Check.due("the last row", Check.valueOf(x, "look(14,1:c29..d29,2)"), "29");
        Check.due("the row behind the last", Check.valueOf(x, "look(14,1:c0..d27,2)"), "#none");
        Check.due("the row ahead of the first", Check.valueOf(x, "look(0,1:c2..d29,2)"), "#none");
        Check.due("not in the second column", Check.valueOf(x, "look(29,1:c0..d29,1)"), "#none");
        Check.due("in a column alone", Check.valueOf(x, "look(29,1:d0..d29,1)"), "29");
    }

    /** Texts that begin with one another, by their signs. */
    private static void keys() {
        Sheetengine x = new Sheetengine();
        int[] which = {10, 1, 11, 1, 10, 19, 2, 0};
        for (int r = 0; r < which.length; r++) {
            x.text(8 * r, which[r]);
            x.number(8 * r + 1, 1 << r, 1);
        }
        x.number(at("a8"), -1, 1);
        x.number(at("a9"), -12, 1);
        x.number(at("a10"), -1, 2);
        x.number(at("a12"), 1, 1);
        x.number(at("a13"), 12, 1);
        x.number(at("a14"), 1, 2);
        x.truth(at("a15"), true);
        Check.enter(x, "a16", "g9&g9");
        Check.enter(x, "a17", "1&g9");
        x.number(at("b17"), 3, 1);
        Check.due("keys that begin with one another", x.grouped(0, at("a17"), 0, 1),
                ":0 -:0 -1:0 -1/2:0 -12:0 1:3 1/2:0 12:0 true:0 w0:128 w1:10 w10:17 w11:4 w19:32 w2:64");
        Check.due("in the sorted order", x.sorted(0, at("a7"), 0, false), "7 1 3 0 4 2 5 6");
        Check.due("falling", x.sorted(0, at("a7"), 0, true), "6 5 2 0 4 1 3 7");
        Check.due("numbers by size", x.sorted(at("a8"), at("a14"), 0, false), "9 8 10 14 12 13 11");
    }

    /** BOUNDS as wide as they can be told, and NUMBERS just within and beyond, which only a goal can put. */
    private static void wideBounds() {
        Sheetengine x = new Sheetengine();
        x.bound(at("a0"), Integer.MIN_VALUE, Integer.MAX_VALUE);
        String[][] cases = {{"a0-2*(8192*8192*16)+1", "2147483647"}, {"a0-2*(8192*8192*16)", "-9"}, {"a0+2*(8192*8192*16)", "-2147483648"},
            {"a0+2*(8192*8192*16)+1", "-9"}, {"a0-2*(8192*8192*16)+1/2", "-9"}, {"a0-2*(8192*8192*16)+3/2", "4294967293/2"}};
        for (String[] c : cases) {
            Check.enter(x, "b0", c[0]);
            Check.due("goal of " + c[0], x.goal(at("a0"), at("b0"), 0, 1), c[1]);
        }
        x.bound(at("a0"), 1 << 30, (1 << 30) + 1);
        Check.enter(x, "b0", "a0-8192*8192*16");
        Check.due("2 to the 30", x.goal(at("a0"), at("b0"), 0, 1), "1073741824");
        Check.due("one more", x.goal(at("a0"), at("b0"), 1, 1), "1073741825");
        Check.due("two more", x.goal(at("a0"), at("b0"), 2, 1), "-9");
        Check.due("one less", x.goal(at("a0"), at("b0"), -1, 1), "-9");
    }

    /** What stays alike is not told further on, what changes kind alone is. */
    private static void reckoned() {
        Sheetengine x = new Sheetengine();
        Check.enter(x, "b0", "a0&c0");
        Check.enter(x, "d0", "b0&w1");
        Check.enter(x, "e0", "a0+0");
        x.number(at("a0"), 1, 1);
        Check.enter(x, "a0", "1");
        Check.due("a formula for an alike number", x.reckoned(), "0");
        Check.enter(x, "a0", "1&g9");
        Check.due("a text for a number with that text", x.reckoned(), "0 1 4");
        Check.due("value", x.value(at("d0")) + x.value(at("e0")), "1w1#kind");
        x.text(at("c0"), 5);
        Check.due("all that hangs on it", x.reckoned(), "1 3");
        x.number(at("g1"), 1, 1);
        x.number(at("g2"), 2, 1);
        x.number(at("h2"), 2, 1);
        Check.enter(x, "h1", "g1");
        Check.enter(x, "f1", "h2");
        x.fill(at("h1"), at("h2"), at("h2"));
        Check.due("filled with another formula for what is alike", x.formula(at("h2")) + " " + x.reckoned(), "=g2 23");
        x.number(at("g3"), 3, 1);
        x.fill(at("h1"), at("h2"), at("h3"));
        Check.due("filled with the same and a new one", x.reckoned(), "23 31");
        x.number(at("g2"), 4, 1);
        Check.due("one that is unlike goes on", x.reckoned(), "13 23");
    }
}
