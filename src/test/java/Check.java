/** What the tests share: comparing answers, and typing formulas as texts. */
final class Check {
    private static final String[] WORDS = {"+", "-", "*", "/", "&", "=", "#", "<", "<=", "(", ")", ",", "if", "sum",
        "count", "least", "most", "look", "countif", "not", "isfault"};
    private static int looked = 0;
    private static int wrong = 0;

    private Check() {
    }

    interface Call {
        Object answer();
    }

    static void due(String what, Object got, Object want) {
        looked++;
        if (!want.equals(got)) {
            wrong++;
            System.out.println(what + " answered " + got + ", due is " + want);
        }
    }

    static void badArgument(String what, Call call) {
        due(what, thrown(call), "IllegalArgumentException");
    }

    static void badState(String what, Call call) {
        due(what, thrown(call), "IllegalStateException");
    }

    private static String thrown(Call call) {
        try {
            return "the answer " + call.answer();
        } catch (IllegalArgumentException | IllegalStateException e) {
            return e.getClass().getSimpleName();
        } catch (RuntimeException e) {
            return "the machine: " + e;
        }
    }

    static void end() {
        System.out.println(wrong == 0 ? looked + " answers are as due" : wrong + " of " + looked + " answers are wrong");
        if (wrong > 0) {
            System.exit(1);
        }
    }

    /** A PLACE told as in a formula of the SHEET 0: "b3", or "1:b3". */
    static int at(String place) {
        int sheet = place.startsWith("1:") ? 1 : 0;
        String plain = place.substring(place.indexOf(':') + 1).replace("$", "");
        return sheet * 240 + Integer.parseInt(plain.substring(1)) * 8 + plain.charAt(0) - 'a';
    }

    private static int held(String place) {
        return (place.lastIndexOf('$') > place.indexOf(':') + 1 ? 1 : 0)
                + (place.startsWith("$") || place.startsWith("1:$") ? 2 : 0);
    }

    /** Puts the tokens of a formula behind the INPUT; a sign ahead of digits is a word of its own. */
    static void type(Sheetengine x, String formula) {
        int k = 0;
        while (k < formula.length()) {
            String token = tokenAt(formula, k);
            put(x, token);
            k += token.length();
        }
    }

    private static String tokenAt(String formula, int from) {
        String rest = formula.substring(from);
        for (String shape : new String[] {"(1:)?\\$?[a-h]\\$?[0-9]+(\\.\\.\\$?[a-h]\\$?[0-9]+)?", "[wn][0-9]+", "[a-z]+", "[0-9]+", "<=", "."}) {
            java.util.regex.Matcher m = java.util.regex.Pattern.compile(shape).matcher(rest);
            if (m.lookingAt()) {
                return m.group();
            }
        }
        throw new AssertionError("no token in " + rest);
    }

    private static void put(Sheetengine x, String token) {
        if (token.contains("..")) {
            String[] corners = token.split("\\.\\.");
            String other = (token.startsWith("1:") ? "1:" : "") + corners[1];
            x.token(4, at(corners[0]), at(other), held(corners[0]));
        } else if (token.matches("[0-9]+")) {
            x.token(0, Integer.parseInt(token), 0, 0);
        } else if (token.matches("[wn][0-9]+")) {
            x.token(token.startsWith("w") ? 1 : 5, Integer.parseInt(token.substring(1)), 0, 0);
        } else if (token.equals("true") || token.equals("false")) {
            x.token(2, token.equals("true") ? 1 : 0, 0, 0);
        } else if (token.matches(".*[0-9].*")) {
            x.token(3, at(token), held(token), 0);
        } else {
            for (int w = 0; w < WORDS.length; w++) {
                if (WORDS[w].equals(token)) {
                    x.token(6, w, 0, 0);
                    return;
                }
            }
            throw new AssertionError("no token " + token);
        }
    }

    /** Enters a formula, which must be without a SLIP. */
    static void enter(Sheetengine x, String place, String formula) {
        x.rub(30);
        type(x, formula);
        due("enter(" + place + ") of " + formula, x.enter(at(place)), -1);
    }

    /** The VALUE of a formula, put at the PLACE h20. */
    static String valueOf(Sheetengine x, String formula) {
        enter(x, "h20", formula);
        return x.value(at("h20"));
    }

    static void number(Sheetengine x, String place, int top, int bottom) {
        due("number(" + place + ") is let", x.number(at(place), top, bottom) >= 0, true);
    }
}
