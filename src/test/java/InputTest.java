/** Promises 1 to 3, 21 and 22: the new object, the INPUT, its text and its SLIP. */
public final class InputTest {
    public static void main(String[] args) {
        newObject();
        tokens();
        wrongTokens();
        rubbing();
        texts();
        slips();
        areaSlips();
        opened();
        Check.end();
    }

    private static void newObject() {
        Sheetengine x = new Sheetengine();
        int[] houseDue = {0, 0, 0, 0, -1, 0, 0, 0, 0, 0};
        for (int k = 0; k <= 9; k++) {
            Check.due("new house(" + k + ")", x.house(k), houseDue[k]);
        }
        int[] placeDue = {0, 0, 0, 0, 0, 0, 0, 0, -1, 0};
        for (int k = 0; k <= 9; k++) {
            Check.due("new ofPlace(479, " + k + ")", x.ofPlace(479, k), placeDue[k]);
        }
        Check.due("new input()", x.input(), "");
        Check.due("new slip()", x.slip(), 0);
        Check.due("new value(0)", x.value(0), "");
        Check.due("new reckoned()", x.reckoned(), "");
        Check.due("new isSound()", x.isSound(), true);
        Check.badState("new undo()", x::undo);
        Check.badState("new redo()", x::redo);
        Check.due("two objects share nothing", new Sheetengine().number(0, 1, 1), 0);
        Check.due("value(0) is still empty", x.value(0), "");
    }

    private static void tokens() {
        Sheetengine x = new Sheetengine();
        Check.due("token number", x.token(0, -9999, 7, 7), 1);
        Check.due("token number", x.token(0, 9999, -1, 999), 2);
        Check.due("token text", x.token(1, 99, 0, 0), 3);
        Check.due("token truth", x.token(2, 1, 0, 0), 4);
        Check.due("token place", x.token(3, 479, 3, -5), 5);
        Check.due("token area", x.token(4, 9, 0, 0), 6);
        Check.due("token name", x.token(5, 5, 0, 0), 7);
        Check.due("token word", x.token(6, 20, 0, 0), 8);
        Check.due("input() of each kind", x.input(), "-99999999w99true1:$h$29a0..b1n5isfault");
        for (int k = 9; k <= 30; k++) {
            Check.due("token " + k, x.token(0, 0, 0, 0), k);
        }
        Check.badState("token 31", () -> x.token(0, 0, 0, 0));
        Check.badArgument("a wrong token goes ahead of a full input", () -> x.token(0, 10000, 0, 0));
        Check.due("30 tokens are left", x.rub(0), 30);
    }

    private static void wrongTokens() {
        Sheetengine x = new Sheetengine();
        int[][] wrong = {{-1, 0, 0, 0}, {7, 0, 0, 0}, {0, -10000, 0, 0}, {0, 10000, 0, 0}, {1, -1, 0, 0}, {1, 100, 0, 0},
            {2, 2, 0, 0}, {2, -1, 0, 0}, {3, -1, 0, 0}, {3, 480, 0, 0}, {3, 0, -1, 0}, {3, 0, 4, 0}, {4, -1, 0, 0},
            {4, 480, 479, 0}, {4, 0, -1, 0}, {4, 479, 480, 0}, {4, 0, 0, -1}, {4, 0, 0, 4}, {4, 239, 240, 0},
            {4, 240, 239, 0}, {5, -1, 0, 0}, {5, 6, 0, 0}, {6, -1, 0, 0}, {6, 21, 0, 0},
            {Integer.MIN_VALUE, 0, 0, 0}, {0, Integer.MIN_VALUE, 0, 0}, {4, Integer.MAX_VALUE, Integer.MAX_VALUE, 0}};
        for (int[] t : wrong) {
            Check.badArgument("token(" + t[0] + ", " + t[1] + ", " + t[2] + ", " + t[3] + ")",
                    () -> x.token(t[0], t[1], t[2], t[3]));
        }
        Check.due("nothing was put", x.input(), "");
    }

    private static void rubbing() {
        Sheetengine x = new Sheetengine();
        Check.due("rub(3) of none", x.rub(3), 0);
        Check.type(x, "1+2");
        Check.due("rub(0)", x.rub(0), 3);
        Check.due("rub(1)", x.rub(1), 2);
        Check.due("input() after it", x.input(), "1+");
        Check.badArgument("rub(-1)", () -> x.rub(-1));
        Check.badArgument("rub(least)", () -> x.rub(Integer.MIN_VALUE));
        Check.due("rub(more)", x.rub(Integer.MAX_VALUE), 0);
        Check.due("input() after it", x.input(), "");
        Check.due("rubbing is no change", x.house(7), 0);
    }

    private static void texts() {
        Sheetengine x = new Sheetengine();
        String[] texts = {"a0", "$a0", "a$0", "$a$0", "h29", "1:a0", "1:$c$12", "sum(a0..b3)", "sum($a$0..$b$3)",
            "sum(1:a0..b3)", "sum(1:$a0..$b3)", "sum(a$0..b$3)", "if(true,w0,false)", "least(n0)", "most(n5)",
            "look(1,a0..b3,2)", "countif(a0,w12)", "not(isfault(1/0))", "count(a0)", "1<=2&3#4<5*6-7=8+9"};
        for (String text : texts) {
            x.rub(30);
            Check.type(x, text);
            Check.due("input() of " + text, x.input(), text);
        }
        x.rub(30);
        x.token(4, Check.at("b0"), Check.at("a3"), 0);
        x.token(4, Check.at("1:b3"), Check.at("1:a0"), 2);
        Check.due("corners are turned so that the smallest comes first", x.input(), "a0..b31:$a0..$b3");
        x.rub(30);
        x.token(6, 1, 0, 0);
        x.token(0, -5, 0, 0);
        x.token(2, 0, 0, 0);
        Check.due("input() of -, -5, false", x.input(), "--5false");
    }

    private static void slip(String formula, int due) {
        Sheetengine x = new Sheetengine();
        Check.type(x, formula);
        Check.due("slip() of " + formula, x.slip(), due);
        if (due != -1) {
            Check.due("enter() of " + formula, x.enter(5), due);
            Check.due("nothing changed by " + formula, x.house(0) + x.house(7), 0);
        }
    }

    private static void slips() {
        for (String right : new String[] {"1", "w5", "true", "a0", "1:a0", "-1", "---a0", "(1)", "((a0))", "1+2*3",
            "1-(-2)", "if(1,2,3)", "if(1+2,(3),not(4))", "look(1+1,n3,a0)", "countif(n2,-a0)", "isfault(1)"}) {
            slip(right, -1);
        }
        slip("+", 0);
        slip("*1", 0);
        slip(")", 0);
        slip(",", 0);
        slip("=1", 0);
        slip("1+2+", 4);
        slip("-", 1);
        slip("(", 1);
        slip("()", 1);
        slip("1)", 1);
        slip("1,2", 1);
        slip("(1,2)", 2);
        slip("(1", 2);
        slip("if", 1);
        slip("if1", 1);
        slip("if(1,2)", 5);
        slip("if(1,2,3,4)", 7);
        slip("if(1,2,3", 7);
        slip("if(,", 2);
        slip("not(1,2)", 3);
        slip("not()", 2);
        slip("1true", 1);
        slip("1(2)", 1);
        slip("1not(2)", 1);
        slip("a0..b1", 0);
        slip("n0", 0);
        slip("1+n0", 2);
        slip("(a0..b1)", 1);
        slip("1-+2", 2);
        slip("1**2", 2);
        slip("look(1,2,3)", 4);
        slip("", 0);
    }

    private static void areaSlips() {
        for (String right : new String[] {"sum(a0)", "sum(a0..b1)", "sum(n0)", "count(1:a0..b1)", "look(1,a0,2)", "countif(a0..b1,2)"}) {
            slip(right, -1);
        }
        slip("sum(", 2);
        slip("sum()", 2);
        slip("sum(1)", 2);
        slip("sum(w1)", 2);
        slip("sum(-a0)", 2);
        slip("sum((a0))", 2);
        slip("sum(a0+1)", 3);
        slip("sum(a0,b0)", 3);
        slip("sum(a0", 3);
        slip("sum(n0*2)", 3);
        slip("sum(a0b0)", 3);
        slip("most(sum(a0))", 2);
        slip("countif(1,a0..b1)", 2);
        slip("countif(a0)", 3);
        slip("countif(a0,a0..b1)", 4);
        slip("if(a0..b1,1,2)", 2);
        slip("look(a0..b1,a0,2)", 2);
        slip("look(1,a0)", 5);
        slip("look(1,a0+1,2)", 5);
        slip("look(1,a0,n0)", 6);
    }

    private static void opened() {
        slip("((((((1))))))", -1);
        slip("(((((((1)))))))", 6);
        slip("not(not(not(not(not(not(1))))))", -1);
        slip("not(not(not(not(not(not(not(1)))))))", 13);
        slip("((((((not", 7);
        slip("((((((not(1", 7);
        slip("((((((1)+(2)))))))", 17);
        slip("((((((1)+(2))))))", -1);
        slip("(((((sum(a0))))))", -1);
        slip("((((((sum(a0)", 7);
    }
}
