/** Promises 29 to 32: rows sorted, filtered and grouped, and what would be if. */
public final class RowsTest {
    public static void main(String[] args) {
        Sheetengine x = rows();
        sorting(x);
        filtering(x);
        grouping(x);
        groupingLong();
        wrongRows(x);
        whatWouldBe();
        whatWouldBeBeyond();
        wrongWhatIf();
        Check.end();
    }

    /** The column b, rows 1 to 12, and numbers beside it in the column d. */
    private static Sheetengine rows() {
        Sheetengine x = new Sheetengine();
        x.number(Check.at("b1"), 3, 2);
        x.text(Check.at("b2"), 10);
        x.truth(Check.at("b3"), true);
        Check.enter(x, "b4", "1/0");
        x.number(Check.at("b6"), -2, 1);
        x.text(Check.at("b7"), 2);
        x.truth(Check.at("b8"), false);
        Check.enter(x, "b9", "1+w1");
        Check.enter(x, "b10", "3/2");
        Check.enter(x, "b11", "3/2&f0");
        x.text(Check.at("b12"), 10);
        x.number(Check.at("d1"), 1, 2);
        x.number(Check.at("d2"), 5, 1);
        x.text(Check.at("d12"), 3);
        x.number(Check.at("d5"), 7, 1);
        Check.enter(x, "d10", "1/3");
        x.number(Check.at("d11"), 1, 6);
        Check.enter(x, "d9", "1/0");
        x.number(Check.at("d4"), 9, 1);
        return x;
    }

    private static void sorting(Sheetengine x) {
        int one = Check.at("h1");
        int last = Check.at("a12");
        Check.due("rising", x.sorted(one, last, 1, false), "6 1 10 11 2 12 7 8 3 4 9 5");
        Check.due("falling", x.sorted(one, last, 1, true), "5 4 9 3 8 7 2 12 11 1 10 6");
        Check.due("one row", x.sorted(one, one, 1, true), "1");
        Check.due("empty ones", x.sorted(0, 239, 7, false).length(), 79);
        Check.due("empty ones, falling", x.sorted(0, Check.at("a3"), 7, true), "0 1 2 3");
        Check.due("the other sheet", x.sorted(Check.at("1:a28"), Check.at("1:a29"), 1, false), "28 29");
        x.number(Check.at("1:b29"), 1, 1);
        Check.due("the other sheet", x.sorted(Check.at("1:a28"), Check.at("1:a29"), 1, false), "29 28");
        x.number(Check.at("1:b28"), 1000, 999);
        Check.due("by size", x.sorted(Check.at("1:a28"), Check.at("1:a29"), 1, false), "29 28");
        Check.due("by size, falling", x.sorted(Check.at("1:a28"), Check.at("1:a29"), 1, true), "28 29");
    }

    private static void filtering(Sheetengine x) {
        int one = Check.at("a1");
        int last = Check.at("a12");
        Check.due("= 2", x.filtered(one, last, 1, 5, 2), "");
        Check.due("= -2", x.filtered(one, last, 1, 5, -2), "6");
        Check.due("= 0", x.filtered(one, last, 1, 5, 0), "5");
        Check.due("# 0", x.filtered(one, last, 1, 6, 0), "1 2 3 6 7 8 10 11 12");
        Check.due("# -2", x.filtered(one, last, 1, 6, -2), "1 2 3 5 7 8 10 11 12");
        Check.due("< 0", x.filtered(one, last, 1, 7, 0), "6");
        Check.due("< 2", x.filtered(one, last, 1, 7, 2), "1 5 6 10");
        Check.due("<= -2", x.filtered(one, last, 1, 8, -2), "6");
        Check.due("<= -3", x.filtered(one, last, 1, 8, -3), "");
        Check.due("<= greatest", x.filtered(one, last, 1, 8, Integer.MAX_VALUE), "1 5 6 10");
        Check.due("< least", x.filtered(one, last, 1, 7, Integer.MIN_VALUE), "");
        Check.due("# least", x.filtered(one, Check.at("a2"), 1, 6, Integer.MIN_VALUE), "1 2");
        Check.due("one row", x.filtered(Check.at("a6"), Check.at("a6"), 1, 7, 0), "6");
        Check.enter(x, "1:g0", "2*2*2*2*2*(8192*8192)-1");
        Check.due("the greatest number", x.filtered(240, 240, 6, 5, Integer.MAX_VALUE) + x.value(246), "02147483647");
        Check.enter(x, "1:g0", "-2*2*2*2*2*(8192*8192)");
        Check.due("the least number", x.filtered(240, 240, 6, 5, Integer.MIN_VALUE) + x.value(246), "0-2147483648");
    }

    private static void grouping(Sheetengine x) {
        Check.due("grouped", x.grouped(Check.at("a1"), Check.at("a12"), 1, 3),
                "#kind:0 #zero:9 -:7 -2:0 3/2:1 false:0 true:0 w10:5 w2:0");
        Check.due("by a column, that itself", x.grouped(Check.at("a9"), Check.at("a12"), 1, 1), "#kind:0 3/2:3/2 w10:0");
        Check.due("empty ones", x.grouped(Check.at("a0"), Check.at("a5"), 7, 3), "-:43/2");
        Check.due("sums of the first column", x.grouped(0, 0, 7, 0), "-:0");
        Check.due("one row", x.grouped(Check.at("a0"), Check.at("a0"), 1, 3), "-:0");
        Check.enter(x, "1:c4", "c0&c1");
        x.text(Check.at("1:c5"), 2);
        x.number(Check.at("1:d4"), -1, 3);
        Check.due("an empty text", x.grouped(Check.at("1:a3"), Check.at("1:a5"), 2, 3), ":-1/3 -:0 w2:0");
    }

    private static void groupingLong() {
        Sheetengine x = new Sheetengine();
        x.number(0, 32768, 1);
        x.number(1, 32768, 1);
        Check.enter(x, "b1", "b0*b0*b0*b0");
        Check.enter(x, "b2", "b1*(b1-1)");
        Check.enter(x, "b3", "b2");
        Check.enter(x, "b4", "b2");
        Check.enter(x, "b5", "-b2");
        x.text(Check.at("a4"), 1);
        x.text(Check.at("a5"), 1);
        Check.due("a long sum", x.grouped(Check.at("a2"), Check.at("a5"), 0, 1), "-:#long w1:0");
    }

    private static void wrongRows(Sheetengine x) {
        int[][] wrong = {{-1, 0, 0}, {480, 480, 0}, {0, -1, 0}, {0, 480, 0}, {0, 240, 0}, {240, 239, 0}, {8, 7, 0}, {0, 0, -1}, {0, 0, 8}};
        for (int[] w : wrong) {
            String told = "(" + w[0] + ", " + w[1] + ", " + w[2] + ")";
            Check.badArgument("sorted" + told, () -> x.sorted(w[0], w[1], w[2], true));
            Check.badArgument("filtered" + told, () -> x.filtered(w[0], w[1], w[2], 5, 0));
            Check.badArgument("grouped" + told, () -> x.grouped(w[0], w[1], w[2], 0));
        }
        Check.badArgument("filtered word 4", () -> x.filtered(0, 0, 0, 4, 0));
        Check.badArgument("filtered word 9", () -> x.filtered(0, 0, 0, 9, 0));
        Check.badArgument("grouped other -1", () -> x.grouped(0, 0, 0, -1));
        Check.badArgument("grouped other 8", () -> x.grouped(0, 0, 0, 8));
        Check.due("the row of one is the row of last", x.sorted(7, 0, 0, true), "0");
    }

    private static void whatWouldBe() {
        Sheetengine x = new Sheetengine();
        Check.enter(x, "b0", "1/a0");
        Check.enter(x, "c0", "b0&w1");
        x.number(0, 9, 1);
        Check.due("what if", x.whatIf(0, 1, -1, 1, 4), "-1 #zero 1 1/2");
        Check.due("further on", x.whatIf(0, 2, 2, 0, 2), "1/2w1 1/2w1");
        Check.due("itself", x.whatIf(0, 0, -9999, 9999, 3), "-9999 0 9999");
        Check.due("over a formula", x.whatIf(1, 2, 5, -10, 2), "5w1 -5w1");
        Check.due("what does not hang on it", x.whatIf(5, 1, 5, -10, 2), "1/9 1/9");
        Check.due("an empty place", x.whatIf(5, 6, 5, 1, 3), "  ");
        Check.due("one", x.whatIf(5, 5, 7, 1, 1), "7");
        Check.due("far", x.whatIf(5, 5, 9999, 9999, 8), "9999 19998 29997 39996 49995 59994 69993 79992");
        Check.due("far below", x.whatIf(5, 5, -9999, -9999, 8), "-9999 -19998 -29997 -39996 -49995 -59994 -69993 -79992");
        Check.due("nothing is changed", x.value(0) + x.house(7) + x.house(0), "933");
        Check.due("nor what was reckoned", x.reckoned(), "1 2");
        x.guard(0, true);
        x.bound(0, 0, 1);
        Check.due("guards and bounds do not matter", x.whatIf(0, 0, 5, 1, 1), "5");
        Check.enter(x, "a3", "a4");
        Check.enter(x, "a4", "a3");
        Check.due("a ring broken", x.whatIf(Check.at("a3"), Check.at("a4"), 5, 1, 2) + x.value(Check.at("a4")), "5 6#ring");
    }

    private static void whatWouldBeBeyond() {
        Sheetengine x = new Sheetengine();
        Check.enter(x, "1:a0", "sum(a0..h9)");
        x.number(0, 1, 1);
        x.fill(0, 0, Check.at("g7"));
        x.fill(0, Check.at("a8"), Check.at("c8"));
        Check.due("cells", x.house(0), 60);
        Check.due("what if with one cell more", x.whatIf(Check.at("h9"), 240, 5, 1, 2), "64 65");
        Check.due("cells", x.house(0), 60);
    }

    private static void wrongWhatIf() {
        Sheetengine x = new Sheetengine();
        int[][] wrong = {{-1, 0, 0, 0, 1}, {480, 0, 0, 0, 1}, {0, -1, 0, 0, 1}, {0, 480, 0, 0, 1}, {0, 0, -10000, 0, 1},
            {0, 0, 10000, 0, 1}, {0, 0, 0, -10000, 1}, {0, 0, 0, 10000, 1}, {0, 0, 0, 0, 0}, {0, 0, 0, 0, 9}};
        for (int[] w : wrong) {
            Check.badArgument("whatIf(" + w[0] + ", " + w[1] + ", " + w[2] + ", " + w[3] + ", " + w[4] + ")",
                    () -> x.whatIf(w[0], w[1], w[2], w[3], w[4]));
        }
    }
}
