import java.math.BigInteger;

/** Promises 4 to 10, 17 and 20: what is put, filled, gone on with, sought and knocked. */
public final class ChangesTest {
    public static void main(String[] args) {
        entering();
        numbers();
        textsAndTruths();
        clearing();
        full();
        filling();
        fillingRefused();
        goingOn();
        goingOnRefused();
        goals();
        goalsRefused();
        knocking();
        Check.end();
    }

    private static void entering() {
        Sheetengine x = new Sheetengine();
        Check.type(x, "a0+1");
        Check.badArgument("enter(-1)", () -> x.enter(-1));
        Check.badArgument("enter(480)", () -> x.enter(480));
        Check.due("enter(479)", x.enter(479), -1);
        Check.due("the input is empty then", x.input(), "");
        Check.due("formula(479)", x.formula(479), "=0:a0+1");
        Check.due("value(479)", x.value(479), "1");
        Check.due("reckoned()", x.reckoned(), "479");
        Check.due("a change", x.house(7), 1);
        Check.due("enter of nothing", x.enter(0), 0);
        Check.type(x, "1+");
        Check.due("enter with a slip", x.enter(0), 2);
        Check.due("the input is left", x.input(), "1+");
        Check.due("nothing was changed", x.house(7), 1);
        Check.due("reckoned() is left", x.reckoned(), "479");
        x.guard(0, true);
        Check.due("the slip goes ahead of -9", x.enter(0), 2);
        Check.badArgument("the place goes ahead of the slip", () -> x.enter(-1));
        Check.type(x, "2");
        Check.due("enter at a guarded place", x.enter(0), -9);
        Check.due("the input is left", x.input(), "1+2");
        Check.due("no cell came", x.house(0), 1);
        x.number(1, 5, 1);
        Check.due("a formula over a constant", x.enter(1), -1);
        Check.due("value", x.value(1), "3");
        Check.due("kind", x.ofPlace(1, 1), 1);
    }

    private static void numbers() {
        Sheetengine x = new Sheetengine();
        Check.due("number without readers", x.number(0, 6, 4), 0);
        Check.due("in lowest terms", x.value(0), "3/2");
        Check.due("formula() of a constant", x.formula(0), "3/2");
        Check.enter(x, "b0", "a0*2");
        Check.enter(x, "c0", "b0+a0");
        Check.enter(x, "d0", "sum(a5..b6)");
        Check.due("number with two that hang on it", x.number(0, -4, 2), 2);
        Check.due("value", x.value(2), "-6");
        Check.due("the same number again", x.number(0, -2, 1), 0);
        Check.due("a change all the same", x.house(7), 6);
        Check.due("what stays the same goes no further", x.number(1, -4, 1), 0);
        Check.due("number 0/7", x.number(0, 0, 7), 1);
        Check.due("value 0", x.value(0), "0");
        Check.due("greatest", x.number(3, 999999, 999) + x.value(3), "01001");
        Check.due("least", x.number(3, -999999, 1) + x.value(3), "0-999999");
        int[][] wrong = {{-1, 0, 1}, {480, 0, 1}, {0, -1000000, 1}, {0, 1000000, 1}, {0, 0, 0}, {0, 0, -1}, {0, 0, 1000},
            {0, Integer.MIN_VALUE, 1}, {0, 1, Integer.MIN_VALUE}};
        for (int[] w : wrong) {
            Check.badArgument("number(" + w[0] + ", " + w[1] + ", " + w[2] + ")", () -> x.number(w[0], w[1], w[2]));
        }
        x.guard(0, true);
        Check.due("number at a guarded place", x.number(0, 1, 1), -9);
        Check.due("its value", x.value(0), "0");
        x.bound(9, -1, 2);
        Check.due("within bounds", x.number(9, 2, 1) + x.number(9, -1, 1) + x.number(9, 5, 3), 0);
        Check.due("above", x.number(9, 7, 3), -9);
        Check.due("below", x.number(9, -7, 6), -9);
        Check.due("its value", x.value(9), "5/3");
    }

    private static void textsAndTruths() {
        Sheetengine x = new Sheetengine();
        Check.enter(x, "b0", "a0&w1");
        Check.due("text", x.text(0, 0), 1);
        Check.due("value", x.value(0) + x.value(1), "w0w0w1");
        Check.due("text", x.text(0, 99), 1);
        Check.due("value", x.value(0), "w99");
        Check.due("kind", x.ofPlace(0, 0), 2);
        Check.due("truth", x.truth(0, true), 1);
        Check.due("value", x.value(0) + " " + x.value(1), "true truew1");
        Check.due("the same truth", x.truth(0, true), 0);
        Check.due("truth", x.truth(0, false), 1);
        Check.due("kind", x.ofPlace(0, 0), 3);
        Check.badArgument("text(-1)", () -> x.text(-1, 0));
        Check.badArgument("text(480)", () -> x.text(480, 0));
        Check.badArgument("text -1", () -> x.text(0, -1));
        Check.badArgument("text 100", () -> x.text(0, 100));
        Check.badArgument("truth(-1)", () -> x.truth(-1, true));
        Check.badArgument("truth(480)", () -> x.truth(480, true));
        x.bound(0, 5, 6);
        Check.due("bounds are of numbers alone", x.text(0, 3) + x.truth(0, true), 2);
        x.guard(0, true);
        Check.due("text, guarded", x.text(0, 3), -9);
        Check.due("truth, guarded", x.truth(0, false), -9);
        Check.due("value", x.value(0), "true");
    }

    private static void clearing() {
        Sheetengine x = new Sheetengine();
        Check.enter(x, "b0", "a0+1");
        x.number(0, 4, 1);
        Check.due("clear", x.clear(0), 1);
        Check.due("value", x.value(0) + "," + x.value(1), ",1");
        Check.due("clear again", x.clear(0), 0);
        Check.due("both are changes", x.house(7), 4);
        x.number(0, 0, 1);
        Check.due("0 is unlike an empty place", x.reckoned(), "1");
        Check.due("clear of a 0", x.clear(0), 1);
        Check.due("clear of a formula", x.clear(1), 0);
        Check.due("no cells", x.house(0), 0);
        x.guard(3, true);
        Check.due("clear of a guarded empty place", x.clear(3), -9);
        Check.badArgument("clear(-1)", () -> x.clear(-1));
        Check.badArgument("clear(480)", () -> x.clear(480));
    }

    /** 60 CELLS: rows 0 to 6 of the SHEET 1, and half of the next. */
    private static Sheetengine crowded() {
        Sheetengine x = new Sheetengine();
        x.number(240, 1, 1);
        Check.due("fill", x.fill(240, 240, 240 + 6 * 8 + 7), 55);
        Check.due("fill", x.fill(240, 240 + 56, 240 + 59), 4);
        Check.due("cells", x.house(0), 60);
        return x;
    }

    private static void full() {
        Sheetengine x = crowded();
        int changes = x.house(7);
        Check.badState("number 61", () -> x.number(0, 1, 1));
        Check.badState("text 61", () -> x.text(0, 1));
        Check.badState("truth 61", () -> x.truth(0, true));
        Check.badState("enter 61 with a slip", () -> x.enter(0));
        Check.badState("goal 61", () -> x.goal(0, 0, 1, 1));
        Check.badArgument("a wrong number goes ahead", () -> x.number(0, 1, 0));
        Check.badArgument("a wrong text goes ahead", () -> x.text(0, 100));
        Check.badArgument("a wrong goal goes ahead", () -> x.goal(0, 480, 1, 1));
        x.guard(0, true);
        Check.badState("the exception goes ahead of -9", () -> x.number(0, 1, 1));
        Check.due("number where one is", x.number(240, 2, 1), 0);
        Check.due("fill beyond 60", x.fill(240, 240, 300), -9);
        Check.due("fill where cells are", x.fill(240, 241, 247), 7);
        Check.due("fill of an empty place", x.fill(0, 0, 239), 239);
        x.undo();
        x.number(248, 1, 1);
        Check.due("going on where cells are", x.goOn(240, true, 5), "-4");
        x.undo();
        x.undo();
        x.undo();
        Check.due("going on beyond 60", x.goOn(240 + 5 * 8, true, 2), "-9");
        Check.due("what if beyond 60", x.whatIf(7, 7, 3, 2, 3), "3 5 7");
        Check.due("cells", x.house(0), 60);
        Check.due("two changes", x.house(7), changes + 2);
        x.clear(250);
        Check.due("room again", x.text(479, 1), 0);
        Check.badState("and full again", () -> x.text(250, 1));
    }

    private static void filling() {
        Sheetengine x = new Sheetengine();
        Check.enter(x, "b1", "a0+$a0+a$0+$a$0+1:a0+sum(a0..b0)");
        Check.due("fill with its own place", x.fill(Check.at("b1"), Check.at("b1"), Check.at("c2")), 3);
        Check.due("own", x.formula(Check.at("b1")), "=a0+$a0+a$0+$a$0+1:a0+sum(a0..b0)");
        Check.due("right", x.formula(Check.at("c1")), "=b0+$a0+b$0+$a$0+1:b0+sum(b0..c0)");
        Check.due("below", x.formula(Check.at("b2")), "=a1+$a1+a$0+$a$0+1:a1+sum(a1..b1)");
        Check.due("both", x.formula(Check.at("c2")), "=b1+$a1+b$0+$a$0+1:b1+sum(b1..c1)");
        Check.due("reckoned", x.reckoned(), "10 17 18");
        Check.due("fill without its own place", x.fill(Check.at("b1"), Check.at("a0"), Check.at("a0")), 1);
        Check.due("gone beyond", x.formula(0), "=gone+gone+gone+$a$0+gone+sum(gone)");
        Check.due("value", x.value(0), "#ring");
        Check.due("fill to itself alone", x.fill(0, 0, 0), 0);
        Check.due("that is a change too", x.house(7), 4);
        x.number(5, 7, 2);
        Check.due("fill of a constant, corners turned", x.fill(5, Check.at("h3"), Check.at("g2")), 4);
        Check.due("value", x.value(Check.at("g3")), "7/2");
        Check.due("fill of an empty place", x.fill(Check.at("h29"), Check.at("g0"), Check.at("h2")), 6);
        Check.due("emptied", x.value(Check.at("g2")) + x.value(Check.at("h3")), "7/2");
        Check.enter(x, "d29", "d28&e29");
        x.fill(Check.at("d29"), Check.at("c29"), Check.at("h29"));
        Check.due("gone beyond the last column", x.formula(Check.at("h29")), "=h28&gone");
        Check.due("value of gone", x.value(Check.at("h29")), "#gone");
        Check.enter(x, "a5", "sum(g5..h9)");
        x.fill(Check.at("a5"), Check.at("b5"), Check.at("b5"));
        Check.due("an area of which a corner comes beyond is gone", x.formula(Check.at("b5")), "=sum(gone)");
        Check.due("value of it", x.value(Check.at("b5")), "#gone");
        Check.enter(x, "a6", "sum($g$5..$h$9)");
        x.fill(Check.at("a6"), Check.at("b7"), Check.at("b7"));
        Check.due("a held one stays", x.formula(Check.at("b7")), "=sum($g$5..$h$9)");
        Check.enter(x, "c6", "sum(g5..h9)+count(n1)+1");
        x.fill(Check.at("c6"), Check.at("c5"), Check.at("c5"));
        Check.due("upwards, with a name", x.formula(Check.at("c5")), "=sum(g4..h8)+count(n1)+1");
    }

    private static void fillingRefused() {
        Sheetengine x = new Sheetengine();
        Check.badArgument("fill(-1)", () -> x.fill(-1, 0, 0));
        Check.badArgument("fill(480)", () -> x.fill(480, 479, 479));
        Check.badArgument("fill one", () -> x.fill(0, -1, 0));
        Check.badArgument("fill one", () -> x.fill(0, 480, 0));
        Check.badArgument("fill other", () -> x.fill(0, 0, 480));
        Check.badArgument("fill other sheet", () -> x.fill(0, 0, 240));
        Check.badArgument("fill other sheet", () -> x.fill(0, 240, 0));
        Check.badArgument("fill from other sheet", () -> x.fill(240, 0, 0));
        x.guard(9, true);
        Check.due("fill over a guarded place", x.fill(0, 1, 18), -9);
        Check.due("its own place may be guarded", x.fill(9, 9, 10), 1);
        x.number(9, 5, 1);
        x.number(0, 5, 1);
        x.bound(2, 6, 9);
        Check.due("beyond bounds", x.fill(0, 1, 3), -9);
        Check.due("nothing was written", x.value(1), "");
        x.text(0, 5);
        Check.due("a text has no bounds", x.fill(0, 1, 3), 3);
        Check.enter(x, "a0", "5");
        Check.due("a formula has no bounds", x.fill(0, 1, 3), 3);
        x.number(0, 9, 1);
        Check.due("within bounds", x.fill(0, 1, 3), 3);
        Check.due("too many cells", x.fill(0, 240 - 8 * 8, 239), -9);
        Check.due("cells", x.house(0), 4);
        Check.due("one too many", x.fill(0, Check.at("d3"), Check.at("f21")), -9);
        Check.due("just as many as may be", x.fill(0, Check.at("a20"), Check.at("h26")), 56);
        Check.due("cells", x.house(0), 60);
    }

    private static void goingOn() {
        Sheetengine x = new Sheetengine();
        x.number(0, 1, 2);
        x.number(8, 4, 3);
        Check.enter(x, "b0", "sum(a0..a9)");
        Check.due("goOn down", x.goOn(0, true, 3), "23/6");
        Check.due("between", x.value(16) + " " + x.value(24), "13/6 3");
        Check.due("reckoned", x.reckoned(), "1");
        Check.due("kind", x.ofPlace(32, 1), 0);
        x.number(240, 5, 1);
        x.number(241, 3, 1);
        Check.due("goOn right to the last column", x.goOn(240, false, 6), "-9");
        Check.due("that is no refusal", x.value(247), "-9");
        Check.due("changes", x.house(7), 7);
        Check.due("goOn beyond the last column", x.goOn(246, false, 1), "-9");
        Check.due("that is a refusal", x.house(7), 7);
        x.number(7, 2, 1);
        x.number(15, 2, 1);
        Check.due("goOn to the last row", x.goOn(7, true, 28), "2");
        Check.due("last row", x.value(239), "2");
        x.undo();
        Check.due("one step", x.value(23) + x.value(239), "");
    }

    private static void goingOnRefused() {
        Sheetengine x = new Sheetengine();
        Check.badArgument("goOn(-1)", () -> x.goOn(-1, true, 1));
        Check.badArgument("goOn(480)", () -> x.goOn(480, true, 1));
        Check.badArgument("goOn 0", () -> x.goOn(0, true, 0));
        Check.badArgument("goOn 29", () -> x.goOn(0, true, 29));
        Check.due("both empty", x.goOn(0, true, 1), "-9");
        x.number(0, 1, 1);
        Check.due("second empty", x.goOn(0, true, 1), "-9");
        x.text(1, 3);
        Check.due("second a text", x.goOn(0, false, 1), "-9");
        Check.enter(x, "b0", "2");
        Check.due("second a formula", x.goOn(0, false, 1), "-9");
        x.number(1, 2, 1);
        x.number(8, 2, 1);
        Check.due("beyond the columns", x.goOn(0, false, 7), "-9");
        x.number(239 - 7, 1, 1);
        x.number(239 - 15, 1, 1);
        Check.due("beyond the rows", x.goOn(239 - 15, true, 1), "-9");
        Check.due("the second beyond the rows", x.goOn(239 - 7, true, 1), "-9");
        x.number(7, 1, 1);
        Check.due("the second beyond the columns", x.goOn(7, false, 1), "-9");
        x.guard(3, true);
        Check.due("guarded", x.goOn(0, false, 2), "-9");
        Check.due("before it", x.goOn(0, false, 1), "3");
        x.bound(24, 5, 9);
        Check.due("beyond bounds", x.goOn(0, true, 3), "-9");
        Check.due("before them", x.goOn(0, true, 1), "3");
        x.bound(24, 4, 4);
        Check.due("within them", x.goOn(0, true, 3), "5");
        Check.due("last row of the sheet 0 is no row of the sheet 1", x.goOn(224, true, 3), "-9");
        tooLong();
    }

    /** Puts 1 divided by a product as a constant: it is the goal with which a formula in the SHEET 1 is 0. */
    private static void putUnder(Sheetengine x, int place, int[] factors) {
        StringBuilder product = new StringBuilder("1:a0");
        for (int k = 0; k < factors.length; k++) {
            x.number(240 + 8 * k, 1, factors[k]);
            product.append(k == 0 ? "" : "*1:a" + k);
        }
        Check.enter(x, "1:b0", product.toString());
        x.rub(30);
        x.token(3, place, 0, 0);
        Check.type(x, "-1:b0");
        x.enter(Check.at("1:c0"));
        Check.due("goal", x.goal(place, Check.at("1:c0"), 0, 1), x.value(Check.at("1:b0")));
    }

    /** A bottom of 120 binary digits may be, one of 121 not; what is told on the way may be longer. */
    private static void tooLong() {
        int[] factors = {4, 991, 983, 977, 971, 967, 953, 947, 941, 937, 929, 919};
        BigInteger under = BigInteger.ONE;
        for (int factor : factors) {
            under = under.multiply(BigInteger.valueOf(factor));
        }
        BigInteger half = under.shiftRight(1);
        BigInteger written = half.multiply(BigInteger.valueOf(997));
        Check.due("the difference would be too long, what is written is not",
                written.bitLength() + " " + under.multiply(BigInteger.valueOf(997)).bitLength(), "120 121");
        Sheetengine x = new Sheetengine();
        putUnder(x, 1, factors);
        Check.due("value", x.value(1), "1/" + under);
        x.number(0, 1, 997);
        Check.due("goOn to it", x.goOn(0, false, 1), BigInteger.valueOf(997).subtract(half) + "/" + written);
        Check.due("value of it", x.value(2), BigInteger.valueOf(997).subtract(half) + "/" + written);
        Check.due("the next one is too long", x.goOn(0, false, 2), "-9");
        x.clear(2);
        Check.due("nothing is written then", x.goOn(0, false, 2) + x.value(2), "-9");
    }

    private static void goals() {
        Sheetengine x = new Sheetengine();
        Check.enter(x, "b0", "a0*3+1");
        Check.due("goal", x.goal(0, 1, 8, 1), "7/3");
        Check.due("values", x.value(0) + " " + x.value(1), "7/3 8");
        Check.due("a change", x.house(7), 2);
        Check.due("reckoned", x.reckoned(), "1");
        Check.due("goal as a fraction", x.goal(0, 1, -3, 6), "-1/2");
        Check.due("goal at itself", x.goal(9, 9, 6, 4), "3/2");
        Check.due("goal over a formula", x.goal(1, 1, 5, 1), "5");
        Check.due("it is a constant then", x.ofPlace(1, 1), 0);
        x.undo();
        Check.due("undone", x.formula(1), "=a0*3+1");
        Check.enter(x, "c0", "1/(b0+2)");
        Check.due("not straight", x.goal(0, 2, 1, 7), "-9");
        Check.enter(x, "d0", "if(a0=0,0,if(a0=1,1,a0))");
        Check.due("straight where it is looked at", x.goal(0, 3, 999999, 999), "1001");
        Check.due("-9 as a number is a change", x.goal(0, 3, -9, 1), "-9");
        Check.due("value", x.value(0), "-9");
        x.bound(0, 3, 4);
        Check.due("within bounds", x.goal(0, 3, 7, 2), "7/2");
    }

    private static void goalsRefused() {
        Sheetengine x = new Sheetengine();
        int[][] wrong = {{-1, 0, 0, 1}, {480, 0, 0, 1}, {0, -1, 0, 1}, {0, 480, 0, 1}, {0, 0, -1000000, 1},
            {0, 0, 1000000, 1}, {0, 0, 0, 0}, {0, 0, 0, 1000}, {0, 0, Integer.MIN_VALUE, 1}};
        for (int[] w : wrong) {
            Check.badArgument("goal(" + w[0] + ", " + w[1] + ", ..)", () -> x.goal(w[0], w[1], w[2], w[3]));
        }
        Check.due("nothing hangs on it", x.goal(0, 1, 5, 1), "-9");
        Check.enter(x, "b0", "a0+1");
        Check.enter(x, "c0", "a0=1");
        Check.enter(x, "d0", "a0*0+7");
        Check.enter(x, "e0", "1/a0");
        Check.due("no numbers", x.goal(0, 2, 1, 1), "-9");
        Check.due("like numbers", x.goal(0, 3, 7, 1), "-9");
        Check.due("a fault at 0", x.goal(0, 4, 7, 1), "-9");
        x.bound(0, 0, 10);
        Check.due("beyond bounds", x.goal(0, 1, 12, 1), "-9");
        Check.due("at the bound", x.goal(0, 1, 11, 1), "10");
        int changes = x.house(7);
        x.guard(0, true);
        Check.due("guarded", x.goal(0, 1, 3, 1), "-9");
        Check.due("no change", x.house(7), changes + 1);
        Check.due("value", x.value(0), "10");
        Check.due("reckoned by guard", x.reckoned(), "");
    }

    private static void knocking() {
        Sheetengine x = new Sheetengine();
        Check.enter(x, "a0", "5");
        Check.due("knock", x.knock(), 1);
        Check.due("knock", x.knock(), 2);
        Check.due("no change", x.house(7), 1);
        Check.due("reckoned is left", x.reckoned(), "0");
        x.undo();
        Check.due("knock is not undone", x.knock(), 3);
        Check.due("nor does it end what can be done again", x.house(8), 1);
        Check.due("house(9)", x.house(9), 3);
    }
}
