import java.util.HashMap;
import java.util.List;
import java.util.Map;

/**
 * What may stand where in the INPUT, each TOKEN in each place; what is done first, each joint beside each other one;
 * and what each joint and function tells of each kind of VALUE.
 */
public final class GrammarTest {
    private static final List<String> OPERANDS = List.of("7", "w3", "true", "false", "a0", "1:$a$5");
    private static final List<String> AREAS = List.of("a0", "1:$a$5", "a0..b1", "1:a$0..b$1", "n0", "n5");
    private static final List<String> AHEAD = List.of("-", "(");
    private static final List<String> FUNCTIONS = List.of("if", "sum", "count", "least", "most", "look", "countif", "not", "isfault");
    private static final List<String> JOINTS = List.of("+", "-", "*", "/", "&", "=", "#", "<", "<=");
    private static final String[] ALL = {"7", "w3", "true", "false", "a0", "1:$a$5", "a0..b1", "1:a$0..b$1", "n0", "n5", "+", "-", "*", "/", "&",
        "=", "#", "<", "<=", "(", ")", ",", "if", "sum", "count", "least", "most", "look", "countif", "not", "isfault"};
    private static final Map<String, Integer> TIGHT = new HashMap<>();

    public static void main(String[] args) {
        operands();
        joints();
        openings();
        areas();
        areaEnds();
        sixOpen();
        endings();
        order();
        ahead();
        faults();
        kinds();
        functionKinds();
        Check.end();
    }

    /** Behind a beginning that may stand, just these TOKENS may stand; any other one is the SLIP. */
    private static void next(String beginning, List<?>... may) {
        for (String token : ALL) {
            boolean is = false;
            for (List<?> some : may) {
                is |= some.contains(token);
            }
            Sheetengine x = new Sheetengine();
            Check.type(x, beginning);
            int at = x.rub(0);
            Check.type(x, token);
            int slip = x.slip();
            Check.due(token + " behind " + beginning + " may stand", slip == -1 || slip == at + 1, is);
            if (!is) {
                Check.due("slip of " + token + " behind " + beginning, slip, at);
                Check.type(x, "+");
                Check.due("the first slip of " + token + " behind " + beginning, x.slip(), at);
            }
        }
    }

    private static void operands() {
        for (String beginning : new String[] {"", "1+", "1-", "1*", "1/", "1&", "1=", "1#", "1<", "1<=", "-", "--", "1--", "(", "((", "(1+", "(-",
            "if(", "if(1,", "if(1,2,", "if(1+", "look(", "look(1,a0,", "countif(a0,", "not(", "not(-", "isfault(", "isfault((", "not(isfault("}) {
            next(beginning, OPERANDS, AHEAD, FUNCTIONS);
        }
    }

    private static void joints() {
        for (String beginning : new String[] {"1", "w1", "true", "a0", "1:$h$29", "-1", "--1", "1+2", "(1)", "((1))", "not(1)", "sum(a0)", "if(1,2,3)",
            "look(1,a0,1)+1", "countif(a0,1)"}) {
            next(beginning, JOINTS);
        }
        for (String beginning : new String[] {"(1", "((1)", "(a0", "(1+2", "if(1,2,3", "if(1,2,(3)", "look(1,a0,1", "countif(a0,1", "not(1", "isfault(a0",
            "not(isfault(1)", "if(1,2,not(1)", "(sum(a0)", "1+(2"}) {
            next(beginning, JOINTS, List.of(")"));
        }
        for (String beginning : new String[] {"if(1", "if(1,2", "if((1)", "if(sum(a0)", "if(1,sum(a0)", "look(1", "look(a0", "look((1)+2",
            "(if(1", "not(if(1", "if(1,if(1,2,3)"}) {
            next(beginning, JOINTS, List.of(","));
        }
    }

    private static void openings() {
        for (String function : FUNCTIONS) {
            next(function, List.of("("));
            next("1+" + function, List.of("("));
            next("(-" + function, List.of("("));
            next("if(1," + function, List.of("("));
        }
    }

    private static void areas() {
        for (String beginning : new String[] {"sum(", "count(", "least(", "most(", "countif(", "look(1,", "look(1+2,", "(sum(", "not(countif("}) {
            next(beginning, AREAS);
        }
    }

    private static void areaEnds() {
        for (String area : AREAS) {
            for (String function : new String[] {"sum(", "count(", "least(", "most("}) {
                next(function + area, List.of(")"));
            }
            next("countif(" + area, List.of(","));
            next("look(1," + area, List.of(","));
            next("not(look(w1," + area, List.of(","));
        }
    }

    private static void sixOpen() {
        for (String beginning : new String[] {"((((((", "not(not(not(not(not(not(", "(((((isfault(", "(((((-not("}) {
            next(beginning, OPERANDS, List.of("-"), FUNCTIONS);
        }
        next("((((((not");
        next("(((((sum(a0)+sum", List.of("("));
        next("(((((sum(", AREAS);
        next("(((((", OPERANDS, AHEAD, FUNCTIONS);
        next("(((((not", List.of("("));
        next("((((((1)+", OPERANDS, AHEAD, FUNCTIONS);
        next("((((((1)+(", OPERANDS, List.of("-"), FUNCTIONS);
        next("((((((1)+(2", JOINTS, List.of(")"));
        next("((((((1))))))", JOINTS);
    }

    /** The end as a SLIP: an OPERAND, an ARGUMENT or "(" is due, or something is open. */
    private static void endings() {
        String[] open = {"", "-", "1+", "1<=", "(", "(1", "((1)", "if", "if(", "if(1", "if(1,", "if(1,2", "if(1,2,", "if(1,2,3", "sum", "sum(", "sum(a0",
            "sum(a0..b1", "sum(n0", "look(1,", "look(1,a0", "look(1,a0,", "look(1,a0,1", "countif(a0", "countif(a0,", "countif(a0,1", "not(1", "1+(2+3"};
        for (String formula : open) {
            Sheetengine x = new Sheetengine();
            Check.type(x, formula);
            Check.due("slip() of " + formula, x.slip(), x.rub(0));
            Check.due("enter() of " + formula, x.enter(3), x.rub(0));
            Check.due("what stands there", x.formula(3) + x.input(), formula);
        }
        for (String formula : new String[] {"1", "a0", "-1", "(1)", "1+(2+3)", "sum(a0)", "look(1,a0,1)", "if(1,2,3)"}) {
            Sheetengine x = new Sheetengine();
            Check.type(x, formula);
            Check.due("slip() of " + formula, x.slip(), -1);
            Check.due("enter() of " + formula, x.enter(3), -1);
            Check.due("what stands there", x.formula(3) + x.input(), "=" + formula);
        }
    }

    private static Sheetengine some() {
        Sheetengine x = new Sheetengine();
        x.number(Check.at("a0"), 5, 1);
        x.number(Check.at("b0"), 3, 1);
        x.number(Check.at("c0"), 2, 1);
        x.truth(Check.at("d0"), false);
        x.truth(Check.at("e0"), true);
        return x;
    }

    /** Two joints and three operands: the tighter one is done first, of alike ones the left one. */
    private static void order() {
        String[] tight = {"* /", "+ -", "&", "= # < <="};
        for (int k = 0; k < tight.length; k++) {
            for (String joint : tight[k].split(" ")) {
                TIGHT.put(joint, -k);
            }
        }
        for (String one : JOINTS) {
            for (String two : JOINTS) {
                boolean isLeft = TIGHT.get(one) >= TIGHT.get(two);
                for (String[] o : new String[][] {{"a0", "b0", "c0"}, {"c0", "a0", "b0"}, {"d0", "b0", "b0"}, {"b0", "b0", "e0"}, {"d0", "d0", "e0"}}) {
                    Sheetengine x = some();
                    String plain = Check.valueOf(x, o[0] + one + o[1] + two + o[2]);
                    String left = Check.valueOf(x, "(" + o[0] + one + o[1] + ")" + two + o[2]);
                    String right = Check.valueOf(x, o[0] + one + "(" + o[1] + two + o[2] + ")");
                    Check.due(o[0] + one + o[1] + two + o[2] + " as " + left + " or " + right, plain, isLeft ? left : right);
                }
            }
        }
    }

    /** "-" ahead is done before all joints. */
    private static void ahead() {
        for (String joint : JOINTS) {
            Sheetengine x = some();
            Check.due("-a0" + joint + "b0", Check.valueOf(x, "-a0" + joint + "b0"), Check.valueOf(x, "(-a0)" + joint + "b0"));
            Check.due("a0" + joint + "-b0", Check.valueOf(x, "a0" + joint + "-b0"), Check.valueOf(x, "a0" + joint + "(-b0)"));
            Check.due("a0" + joint + "--b0", Check.valueOf(x, "a0" + joint + "--b0"), Check.valueOf(x, "a0" + joint + "b0"));
            Check.due("a0+c0" + joint + "-b0", Check.valueOf(x, "a0*c0" + joint + "-b0"), Check.valueOf(x, "(a0*c0)" + joint + "(-b0)"));
        }
        Sheetengine x = some();
        Check.due("-(a0+b0)", Check.valueOf(x, "-(a0+b0)"), "-8");
        Check.due("-sum(a0..c0)", Check.valueOf(x, "-sum(a0..c0)"), "-10");
        Check.due("-if(true,a0,1)*2", Check.valueOf(x, "-if(true,a0,1)*2"), "-10");
    }

    /** "If an operand is a FAULT, that is the VALUE (of two the left one's)", whatever the other one is. */
    private static void faults() {
        for (String joint : JOINTS) {
            Sheetengine x = new Sheetengine();
            Check.enter(x, "a0", "1/0");
            Check.enter(x, "b0", "1+w1");
            for (String other : new String[] {"1", "0", "w1", "true", "h9", "a0", "(1/0)"}) {
                Check.due("a0" + joint + other, Check.valueOf(x, "a0" + joint + other), "#zero");
                Check.due(other + joint + "a0", Check.valueOf(x, other + joint + "a0"), "#zero");
            }
            Check.due("two faults joined by " + joint, Check.valueOf(x, "a0" + joint + "b0"), "#zero");
            Check.due("two faults joined by " + joint, Check.valueOf(x, "b0" + joint + "a0"), "#kind");
        }
        Sheetengine x = new Sheetengine();
        Check.enter(x, "a0", "least(h1..h2)");
        for (String formula : new String[] {"-a0", "(a0)", "if(a0,1,2)", "if(true,a0,2)", "if(false,1,a0)", "not(a0)", "sum(a0)", "least(a0)", "most(a0)",
            "countif(b0,a0)", "look(a0,b0,1)", "look(1,b0,a0)"}) {
            Check.due(formula, Check.valueOf(x, formula), "#none");
        }
        Check.due("count(a0)", Check.valueOf(x, "count(a0)"), "0");
        Check.due("isfault(a0)", Check.valueOf(x, "isfault(a0)"), "true");
        Check.due("countif(a0,1)", Check.valueOf(x, "countif(a0,1)"), "0");
        Check.due("look(1,a0,1)", Check.valueOf(x, "look(1,a0,1)"), "#none");
    }

    private static final String[] KINDS = {"5", "w1", "true", "h9"};

    /** Of NUMBERS (EMPTY ones count as such), of TEXTS and of TRUTHS: what each joint tells of two of them. */
    private static void kinds() {
        for (String one : KINDS) {
            for (String two : KINDS) {
                boolean isOne = one.equals("5") || one.equals("h9");
                boolean isTwo = two.equals("5") || two.equals("h9");
                Sheetengine x = new Sheetengine();
                for (String joint : new String[] {"+", "-", "*"}) {
                    Check.due(one + joint + two, Check.valueOf(x, one + joint + two).equals("#kind"), !isOne || !isTwo);
                }
                String over = Check.valueOf(x, one + "/" + two);
                Check.due(one + "/" + two, over, !isOne || !isTwo ? "#kind" : two.equals("h9") ? "#zero" : one.equals("5") ? "1" : "0");
                Check.due(one + "&" + two, Check.valueOf(x, one + "&" + two), (one + two).replace("h9", ""));
                boolean isAlike = one.equals(two);
                Check.due(one + "=" + two, Check.valueOf(x, one + "=" + two), "" + isAlike);
                Check.due(one + "#" + two, Check.valueOf(x, one + "#" + two), "" + !isAlike);
                boolean isOfKind = isAlike || isOne && isTwo;
                boolean isLess = one.equals("h9") && two.equals("5");
                Check.due(one + "<" + two, Check.valueOf(x, one + "<" + two), isOfKind ? "" + isLess : "#kind");
                Check.due(one + "<=" + two, Check.valueOf(x, one + "<=" + two), isOfKind ? "" + (isLess || isAlike) : "#kind");
            }
        }
    }

    /** What "-" and the functions tell of a NUMBER, a TEXT, each TRUTH, an EMPTY place and a FAULT. */
    private static void functionKinds() {
        String[][] table = {
            {"x", "5", "0", "w1", "true", "false", "h9", "(1/0)"},
            {"-x", "-5", "0", "#kind", "#kind", "#kind", "0", "#zero"},
            {"(x)", "5", "0", "w1", "true", "false", "0", "#zero"},
            {"not(x)", "#kind", "#kind", "#kind", "false", "true", "#kind", "#zero"},
            {"isfault(x)", "false", "false", "false", "false", "false", "false", "true"},
            {"if(x,1,2)", "#kind", "#kind", "#kind", "1", "2", "#kind", "#zero"},
            {"if(x,1/0,2)", "#kind", "#kind", "#kind", "#zero", "2", "#kind", "#zero"},
            {"if(x,1,1+w1)", "#kind", "#kind", "#kind", "1", "#kind", "#kind", "#zero"},
            {"if(true,x,1)", "5", "0", "w1", "true", "false", "0", "#zero"},
            {"if(false,1,x)", "5", "0", "w1", "true", "false", "0", "#zero"},
            {"if(true,1,x)", "1", "1", "1", "1", "1", "1", "1"},
            {"countif(a0..b2,x)", "1", "2", "1", "1", "0", "2", "#zero"},
            {"look(x,a0..b2,2)", "6", "#none", "w2", "#none", "#none", "#none", "#zero"},
            {"look(5,a0..b2,x)", "#place", "#place", "#place", "#place", "#place", "#place", "#zero"}};
        Sheetengine x = new Sheetengine();
        x.number(Check.at("a0"), 5, 1);
        x.number(Check.at("b0"), 6, 1);
        x.text(Check.at("a1"), 1);
        x.text(Check.at("b1"), 2);
        x.truth(Check.at("c0"), true);
        x.number(Check.at("a2"), 9, 1);
        x.number(Check.at("b2"), 0, 1);
        x.fill(Check.at("b2"), Check.at("b2"), Check.at("b3"));
        for (int row = 1; row < table.length; row++) {
            for (int k = 1; k < table[0].length; k++) {
                String formula = table[row][0].replace("x", table[0][k]).replace("a0..b2", row == 11 ? "a0..c3" : "a0..b2");
                Check.due(formula, Check.valueOf(x, formula), table[row][k]);
            }
        }
    }
}
