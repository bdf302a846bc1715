import java.math.BigInteger;

/**
 * As much as there may be, and one more: 120 binary digits, 20 signs, 30 TOKENS, 6 open at a time, 60 CELLS, and
 * the first and last rows and columns; nothing at all as well.
 */
public final class LimitsTest {
    private static final BigInteger MOST = BigInteger.TWO.pow(120).subtract(BigInteger.ONE);

    public static void main(String[] args) {
        digits();
        longTops();
        longBottoms();
        longOnTheWay();
        longGoals();
        longOfOthers();
        shownLong();
        tens();
        signs();
        signOrder();
        tokens();
        open();
        chain();
        ring();
        wide();
        manyRows();
        Check.end();
    }

    private static int at(String place) {
        return Check.at(place);
    }

    /** b0 is 2 to the 120 less 1, b1 2 to the 120 less 2, b2 2 to the 120 less 3, b3 2 to the 60. */
    private static Sheetengine powers() {
        Sheetengine x = new Sheetengine();
        x.number(at("a0"), 32768, 1);
        Check.enter(x, "a1", "a0*a0");
        Check.enter(x, "b3", "a1*a1");
        Check.enter(x, "b0", "(b3-1)*(b3+1)");
        Check.enter(x, "b1", "b0-1");
        Check.enter(x, "b2", "b0-2");
        return x;
    }

    private static BigInteger less(int by) {
        return MOST.subtract(BigInteger.valueOf(by));
    }

    private static void digits() {
        Sheetengine x = powers();
        Check.due("the greatest has 120 digits", MOST.bitLength(), 120);
        Check.due("the greatest", x.value(at("b0")), MOST.toString());
        Check.due("one less", x.value(at("b1")), less(1).toString());
        Check.due("the least", Check.valueOf(x, "-b0"), "-" + MOST);
        Check.due("the greatest as top and bottom", Check.valueOf(x, "b0/b1"), MOST + "/" + less(1));
        Check.due("the greatest bottom", Check.valueOf(x, "b2/b0"), less(2) + "/" + MOST);
        Check.due("the greatest bottom below 0", Check.valueOf(x, "-1/b0"), "-1/" + MOST);
        Check.due("one more by one more", Check.valueOf(x, "b1+1"), MOST.toString());
        Check.due("the greatest less itself", Check.valueOf(x, "b0-b0"), "0");
        Check.due("the greatest by itself", Check.valueOf(x, "b0/b0"), "1");
        Check.due("its bottom taken away", Check.valueOf(x, "1/b0*b0"), "1");
        Check.due("kind", x.ofPlace(at("b0"), 0), 1);
    }

    private static void isLong(Sheetengine x, String formula) {
        Check.due("value of " + formula, Check.valueOf(x, formula), "#long");
        Check.due("kind of " + formula, x.ofPlace(at("h20"), 0), 4);
    }

    private static void longTops() {
        Sheetengine x = powers();
        Check.due("just not", Check.valueOf(x, "b1+1"), MOST.toString());
        isLong(x, "b0+1");
        isLong(x, "-b0-1");
        isLong(x, "b0+1/2");
        isLong(x, "b0*2");
        isLong(x, "b0*-2");
        isLong(x, "b0/(1/2)");
        isLong(x, "b3*b3");
        isLong(x, "-b3*b3");
        isLong(x, "b0*b0");
        isLong(x, "b0+1-1");
        isLong(x, "b0*2/2");
        isLong(x, "(b0+1)*0");
        Check.due("half of it", Check.valueOf(x, "b1/2"), less(1).shiftRight(1).toString());
        Check.due("the half twice", Check.valueOf(x, "b1/2+b1/2"), less(1).toString());
    }

    private static void longBottoms() {
        Sheetengine x = powers();
        Check.due("just not", Check.valueOf(x, "1/b1*2"), "1/" + less(1).shiftRight(1));
        isLong(x, "1/b0/2");
        isLong(x, "-1/b0/2");
        isLong(x, "1/b3/b3");
        isLong(x, "1/b0+1/b1");
        isLong(x, "1/b0-1/2");
        isLong(x, "1/b0*(1/2)");
        isLong(x, "(1/b0/2)*0");
        Check.due("what is common is taken away", Check.valueOf(x, "3/b0"), "1/" + MOST.divide(BigInteger.valueOf(3)));
        Check.due("and gives room", Check.valueOf(x, "3/b0/2"), "1/" + MOST.divide(BigInteger.valueOf(3)).shiftLeft(1));
        Check.due("a quarter", Check.valueOf(x, "b0/4"), MOST + "/4");
    }

    private static void longOnTheWay() {
        Sheetengine x = powers();
        Check.enter(x, "c0", "b0");
        Check.enter(x, "c1", "b0");
        Check.enter(x, "c2", "1/7-b0");
        Check.due("a part is long", x.value(at("c2")), "#long");
        Check.enter(x, "c2", "-b0");
        Check.due("only the sum may be long", Check.valueOf(x, "sum(c0..c2)"), MOST.toString());
        isLong(x, "c0+c1+c2");
        isLong(x, "sum(c0..c1)");
        x.number(at("c3"), 1, 1);
        isLong(x, "sum(c0..c3)");
        x.number(at("c3"), -1, 1);
        Check.due("one less", Check.valueOf(x, "sum(c0..c3)"), less(1).toString());
        Check.enter(x, "c3", "1/b1");
        isLong(x, "sum(c0..c3)");
        Check.enter(x, "c4", "-1/b1");
        Check.due("bottoms cancel", Check.valueOf(x, "sum(c0..c4)"), MOST.toString());
        Check.due("least and most are never long", Check.valueOf(x, "least(c0..c4)+most(c0..c4)"), "0");
        Check.due("compared exactly", Check.valueOf(x, "b0/b1<b1/b2"), "true");
        Check.due("compared exactly", Check.valueOf(x, "b1/b2<b0/b1"), "false");
        Check.due("compared exactly", Check.valueOf(x, "b0/b1<=b0/b1"), "true");
        Check.due("compared exactly", Check.valueOf(x, "-b0<-b1"), "true");
    }

    private static void longGoals() {
        Sheetengine x = powers();
        Check.enter(x, "c0", "c1/b0");
        Check.due("x of 120 digits", x.goal(at("c1"), at("c0"), 1, 1), MOST.toString());
        Check.due("it is a constant", x.value(at("c1")) + x.ofPlace(at("c1"), 1), MOST + "0");
        Check.due("x of 121 digits", x.goal(at("c1"), at("c0"), 2, 1), "-9");
        Check.due("a third", x.goal(at("c1"), at("c0"), -1, 3), "-" + MOST.divide(BigInteger.valueOf(3)));
        Check.enter(x, "c0", "c1*b0");
        Check.due("a bottom of 120 digits", x.goal(at("c1"), at("c0"), 1, 1), "1/" + MOST);
        Check.due("a bottom of 121 digits", x.goal(at("c1"), at("c0"), 1, 2), "-9");
        Check.due("nothing changed", x.value(at("c1")), "1/" + MOST);
        Check.enter(x, "c0", "if(isfault(c1),2,c1/b0)");
        Check.due("x that is long is not tried", x.goal(at("c1"), at("c0"), 2, 1) + x.value(at("c1")), "-91/" + MOST);
        Check.enter(x, "c0", "c1+b1");
        Check.due("what is on the way may be long", x.goal(at("c1"), at("c0"), 7, 1), "-" + less(8));
        Check.enter(x, "c0", "c1+b0");
        Check.due("f(1) is long", x.goal(at("c1"), at("c0"), 7, 1), "-9");
    }

    private static void longOfOthers() {
        Sheetengine x = powers();
        Check.enter(x, "c0", "c1/b0");
        x.goal(at("c1"), at("c0"), 1, 1);
        x.number(at("d1"), 1, 1);
        Check.due("goOn that is not long", x.goOn(at("c1"), false, 1), BigInteger.TWO.subtract(MOST).toString());
        Check.due("goOn that is long", x.goOn(at("c1"), false, 2), "-9");
        x.number(at("e1"), 7, 1);
        Check.due("nothing is written then", x.goOn(at("c1"), false, 2) + x.value(at("e1")) + x.value(at("f1")), "-97");
        Check.enter(x, "f0", "g0*b1");
        Check.due("what would be if", x.whatIf(at("g0"), at("f0"), -1, 1, 4), "-" + less(1) + " 0 " + less(1) + " #long");
        Check.due("grouped", x.grouped(at("a0"), at("a2"), 7, 1), "-:#long");
        Check.due("grouped, the longest", x.grouped(at("a0"), at("a0"), 7, 1), "-:" + MOST);
        Check.due("sorted", x.sorted(at("a0"), at("a3"), 1, false), "3 2 1 0");
        Check.due("filtered", x.filtered(at("a0"), at("a3"), 1, 7, Integer.MAX_VALUE), "");
    }

    private static void shownLong() {
        Sheetengine x = powers();
        Check.enter(x, "c0", "-b0/4");
        String quarter = MOST.shiftRight(2).toString();
        String[] due = {"-" + less(-1).shiftRight(2), "-" + quarter + ".8", "-" + quarter + ".75", "-" + quarter + ".750"};
        String[] whole = {MOST.toString(), MOST + ".0", MOST + ".00", MOST + ".000"};
        for (int digits = 0; digits <= 3; digits++) {
            x.form(at("c0"), digits);
            x.form(at("b0"), digits);
            Check.due("the longest with digits " + digits, x.shown(at("c0")), due[digits]);
            Check.due("the greatest with digits " + digits, x.shown(at("b0")), whole[digits]);
        }
        Check.enter(x, "d0", "-1/b0");
        Check.enter(x, "d1", "b1/b0");
        x.form(at("d0"), 3);
        x.form(at("d1"), 3);
        Check.due("what is rounded to 0 has no sign", x.shown(at("d0")), "0.000");
        Check.due("what is rounded to 1", x.shown(at("d1")), "1.000");
    }

    /** 10 to the 0 and so on, down the columns a and b: no digit is lost in a text, and none comes. */
    private static void tens() {
        Sheetengine x = new Sheetengine();
        x.number(at("a0"), 1, 1);
        Check.enter(x, "a1", "a0*10");
        x.fill(at("a1"), at("a2"), at("a29"));
        Check.enter(x, "b0", "a29*10");
        Check.enter(x, "b1", "b0*10");
        x.fill(at("b1"), at("b2"), at("b7"));
        Check.due("10 to the 37 is too long", x.value(at("b7")), "#long");
        x.form(at("c0"), 1);
        for (int k = 1; k <= 35; k++) {
            String place = k < 30 ? "a" + k : "b" + (k - 30);
            String zeros = "0".repeat(k);
            String more = "1" + "0".repeat(k - 1) + "1";
            Check.due("10 to the " + k, x.value(at(place)), "1" + zeros);
            String[][] due = {{place + "-1", "9".repeat(k), "9".repeat(k) + ".0"}, {"-" + place + "-1", "-" + more, "-" + more + ".0"},
                {"1/" + place, "1/1" + zeros, k == 1 ? "0.1" : "0.0"}, {"-(" + place + "+1)/" + place, "-" + more + "/1" + zeros, k == 1 ? "-1.1" : "-1.0"},
                {place + "/10", "1" + "0".repeat(k - 1), "1" + "0".repeat(k - 1) + ".0"}, {place + "&c5", k < 20 ? "1" + zeros : "#long", k < 20 ? "1" + zeros : "#long"}};
            for (String[] d : due) {
                Check.enter(x, "c0", d[0]);
                Check.due(d[0], x.value(at("c0")), d[1]);
                Check.due(d[0] + ", shown", x.shown(at("c0")), d[2]);
            }
        }
        Check.due("10 to the 36", x.value(at("b6")), "1" + "0".repeat(36));
    }

    private static void signs() {
        Sheetengine x = powers();
        Check.due("20 signs", Check.valueOf(x, "w99&w99&w99&w99&w99&w99&10"), "w99w99w99w99w99w9910");
        isLong(x, "w99&w99&w99&w99&w99&w99&100");
        Check.due("20 signs and none", Check.valueOf(x, "g9&(w99&w99&w99&w99&w99&w99&10)&g9"), "w99w99w99w99w99w9910");
        isLong(x, "w99&w99&w99&w99&w99&w99&10&w1");
        Check.due("truths of 20 signs", Check.valueOf(x, "false&false&false&false"), "falsefalsefalsefalse");
        isLong(x, "false&false&false&false&0");
        Check.due("fractions of 20 signs", Check.valueOf(x, "-1/9999&-1/9999&1/9999"), "-1/9999-1/99991/9999");
        isLong(x, "-1/9999&-1/9999&-1/9999");
        isLong(x, "b0&g9");
        isLong(x, "g9&b0");
        Check.due("19 signs of a number", Check.valueOf(x, "b3&g9"), BigInteger.TWO.pow(60).toString());
        Check.due("20 signs with a number", Check.valueOf(x, "-b3&g9"), "-" + BigInteger.TWO.pow(60));
        isLong(x, "-b3*10&g9");
        Check.due("no sign at all", Check.valueOf(x, "g9&g9"), "");
        Check.due("it is a text", x.ofPlace(at("h20"), 0), 2);
    }

    private static void order(Sheetengine x, String less, String more) {
        Check.due(less + " is less than " + more, Check.valueOf(x, "(" + less + "&g9)<(" + more + "&g9)"), "true");
        Check.due(more + " is not less than " + less, Check.valueOf(x, "(" + more + "&g9)<(" + less + "&g9)"), "false");
        Check.due(less + " is less or alike", Check.valueOf(x, "(" + less + "&g9)<=(" + more + "&g9)"), "true");
        Check.due(more + " is not less or alike", Check.valueOf(x, "(" + more + "&g9)<=(" + less + "&g9)"), "false");
        Check.due(less + " is alike with itself", Check.valueOf(x, "(" + less + "&g9)<=(" + less + "&g9)"), "true");
    }

    private static void signOrder() {
        Sheetengine x = new Sheetengine();
        order(x, "g9", "0");
        order(x, "g9", "-1");
        order(x, "-1", "0");
        order(x, "1&-1", "1/2");
        order(x, "1/2", "10");
        order(x, "9", "w0");
        order(x, "1&9", "1&w1");
        order(x, "0", "00&0");
        order(x, "1", "1/2");
        order(x, "false", "true");
        order(x, "true", "w0");
        order(x, "w1", "w10");
        order(x, "w10", "w2");
        Check.enter(x, "a0", "w10&w10&w10&w10&w10&w10&1");
        Check.enter(x, "a1", "a0&0");
        Check.enter(x, "a2", "a0&1");
        order(x, "a0", "a1");
        order(x, "a1", "a2");
    }

    /** 30 TOKENS: 15 operands and 14 joints, and a sign ahead. */
    private static void tokens() {
        Sheetengine x = new Sheetengine();
        StringBuilder sum = new StringBuilder("-a0");
        for (int k = 1; k < 15; k++) {
            sum.append("+a0");
        }
        x.number(0, 2, 1);
        Check.type(x, sum.toString());
        Check.badState("token 31", () -> x.token(6, 0, 0, 0));
        Check.due("slip() of 30 tokens", x.slip(), -1);
        Check.due("input() of 30 tokens", x.input(), sum.toString());
        Check.due("enter() of 30 tokens", x.enter(9), -1);
        Check.due("value", x.value(9), "26");
        Check.due("formula", x.formula(9), "=" + sum);
        Check.due("fill of 30 tokens", x.fill(9, 10, 10), 1);
        Check.due("formula", x.formula(10), "=" + sum.toString().replace('a', 'b'));
        Check.due("putIn moves all 30", x.putIn(0, true, 0) + x.formula(10), "3=" + sum.toString().replace('a', 'b'));
        x.undo();
        Check.due("takeOut takes all 30", x.takeOut(0, false, 0) + x.formula(1), "1=" + sum.toString().replace("a0", "gone"));
        Check.type(x, sum.toString());
        Check.due("rub of one", x.rub(1), 29);
        Check.due("slip() at the end", x.slip(), 29);
        Check.due("token 30 again", x.token(6, 10, 0, 0), 30);
        Check.due("slip() of the last one", x.slip(), 29);
        x.rub(30);
        for (int k = 0; k < 30; k++) {
            x.token(6, 1, 0, 0);
        }
        Check.due("30 signs and no operand", x.slip(), 30);
        Check.due("enter() of them", x.enter(20), 30);
        x.rub(1);
        x.token(0, 5, 0, 0);
        Check.due("enter() of 29 signs", x.enter(20) + x.value(20), "-1-5");
    }

    private static void opened(String formula, int slip, String value) {
        Sheetengine x = new Sheetengine();
        Check.type(x, formula);
        Check.due("slip() of " + formula, x.slip(), slip);
        Check.due("enter() of " + formula, x.enter(479), slip);
        Check.due("value of " + formula, x.value(479), value);
    }

    private static void open() {
        opened("(-(-(-(-(-(7))))))", -1, "-7");
        opened("(-(-(-(-(-(-(7)))))))", 12, "");
        opened("if(true,if(true,if(true,(((1))),2),3),4)", -1, "1");
        opened("if(true,if(true,if(true,((((1", 15, "");
        opened("if(true,if(true,((((1)))),3),4)", -1, "1");
        opened("if(true,if(true,if(true,if(true,((1)),2),", 25, "");
        opened("not(not(not(not(not(isfault(a0))))))", -1, "true");
        opened("(((((sum(a0))))))", -1, "0");
        opened("((((((sum(a0)))))))", 7, "");
        opened("((((((1)+2)*3)-4)/5)&6)", -1, "16");
        opened("((((((count(a0)", 7, "");
        opened("((((((1))))))+((((((2))))))", -1, "3");
    }

    /** 60 CELLS, each READS the one ahead. */
    private static void chain() {
        Sheetengine x = new Sheetengine();
        x.number(at("c0"), 1, 1);
        Check.enter(x, "c1", "c0+1");
        Check.due("fill", x.fill(at("c1"), at("c2"), at("c29")), 28);
        Check.enter(x, "d0", "c29+1");
        Check.enter(x, "d1", "d0+1");
        Check.due("fill", x.fill(at("d1"), at("d2"), at("d29")), 28);
        Check.due("cells", x.house(0) + " " + x.house(1), "60 59");
        Check.due("the greatest level", x.house(4), 59);
        Check.due("levels", x.ofPlace(at("c0"), 2) + " " + x.ofPlace(at("c29"), 2) + " " + x.ofPlace(at("d29"), 2), "0 29 59");
        Check.due("what hangs on the first", x.ofPlace(at("c0"), 6), 59);
        Check.due("what hangs on the last", x.ofPlace(at("d29"), 6), 0);
        Check.due("value", x.value(at("d29")), "60");
        Check.due("all are reckoned", x.number(at("c0"), 5, 1), 59);
        Check.due("value", x.value(at("d29")), "64");
        Check.due("half of them are reckoned", x.number(at("d0"), 5, 1), 29);
        x.undo();
        Check.due("a goal far off", x.goal(at("c0"), at("d29"), 0, 1), "-59");
        Check.due("what would be if", x.whatIf(at("c0"), at("d29"), 1, -1, 8), "60 59 58 57 56 55 54 53");
        Check.due("sound", x.isSound(), true);
    }

    /** 60 CELLS on one RING. */
    private static void ring() {
        Sheetengine x = new Sheetengine();
        Check.enter(x, "c1", "c0");
        x.fill(at("c1"), at("c2"), at("c29"));
        Check.enter(x, "d0", "c29");
        Check.enter(x, "d1", "d0");
        x.fill(at("d1"), at("d2"), at("d29"));
        Check.due("no ring yet", x.house(0) + " " + x.house(3) + " " + x.house(2), "59 0 0");
        Check.enter(x, "c0", "d29");
        Check.due("on a ring", x.house(3), 60);
        Check.due("faults", x.house(2), 60);
        Check.due("no level", x.house(4), -1);
        Check.due("nothing is reckoned", x.reckoned(), "");
        Check.due("all hang on each", x.ofPlace(at("c17"), 6), 60);
        Check.due("sound", x.isSound(), true);
        Check.due("the ring is broken", x.number(at("d10"), 1, 1), 59);
        Check.due("value", x.value(at("d9")), "1");
    }

    /** A formula that READS 59 CELLS, all of the others. */
    private static void wide() {
        Sheetengine x = Twin.full();
        x.guard(at("e7"), false);
        x.clear(at("d7"));
        x.rub(30);
        Check.enter(x, "1:h29", "sum(a0..h29)");
        Check.due("value", x.value(479), "59");
        Check.due("how many it reads", x.ofPlace(479, 4), 59);
        Check.due("which it reads", x.reads(479, false).split(" ").length, 59);
        Check.due("why", x.why(479).split("; ").length, 60);
        Check.due("why, its end", x.why(479).endsWith("; 57:1; 58:1"), true);
        Check.due("who reads the first", x.reads(0, true), "479");
        Check.due("who reads the last empty one", x.reads(239, true) + x.reads(240, true), "479");
    }

    private static void manyRows() {
        Sheetengine x = new Sheetengine();
        StringBuilder rising = new StringBuilder();
        StringBuilder falling = new StringBuilder();
        StringBuilder groups = new StringBuilder();
        for (int row = 0; row < 30; row++) {
            x.text(240 + 8 * row + 7, 99 - row);
            x.number(240 + 8 * row + 6, row, 1);
            rising.append(row == 0 ? "" : " ").append(29 - row);
            falling.append(row == 0 ? "" : " ").append(row);
            groups.append(row == 0 ? "" : " ").append("w").append(70 + row).append(":").append(29 - row);
        }
        Check.due("30 rows rising", x.sorted(240, 479, 7, false), rising.toString());
        Check.due("30 rows falling", x.sorted(240, 479, 7, true), falling.toString());
        Check.due("30 empty rows", x.sorted(247, 472, 0, false), falling.toString());
        Check.due("30 empty rows, falling", x.sorted(247, 472, 0, true), falling.toString());
        Check.due("30 rows filtered", x.filtered(240, 479, 7, 6, 0), falling.toString());
        Check.due("30 empty rows filtered", x.filtered(240, 479, 0, 5, 0), falling.toString());
        Check.due("none of 30", x.filtered(240, 479, 6, 7, 0), "");
        Check.due("30 groups", x.grouped(240, 479, 7, 6), groups.toString());
        Check.due("one group", x.grouped(240, 479, 0, 6), "-:435");
        Check.due("the last row", x.sorted(472, 479, 7, false) + x.filtered(472, 479, 6, 5, 29) + x.grouped(479, 472, 7, 6), "2929w70:29");
        Check.due("the first row", x.sorted(240, 240, 7, false) + x.filtered(247, 240, 6, 5, 0) + x.grouped(240, 240, 7, 6), "00w99:0");
        Check.due("the sheet 0", x.grouped(0, 239, 7, 6), "-:0");
    }
}
