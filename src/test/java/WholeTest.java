/** Promises 33 to 36: what was reckoned, the house, whether all is sound, and the digest. */
public final class WholeTest {
    public static void main(String[] args) {
        reckoned();
        house();
        sound();
        digests();
        Check.end();
    }

    private static void reckoned() {
        Sheetengine x = new Sheetengine();
        Check.enter(x, "1:b0", "a0");
        Check.due("by enter", x.reckoned(), "241");
        Check.enter(x, "b0", "1:b0+a0");
        x.number(0, 3, 1);
        Check.due("by number", x.reckoned(), "1 241");
        x.token(0, 1, 0, 0);
        x.knock();
        x.value(0);
        x.whatIf(0, 1, 1, 1, 1);
        x.isSound();
        x.digest();
        Check.due("questions and the input leave it", x.reckoned(), "1 241");
        Check.badArgument("as does a wrong call", () -> x.number(0, 0, 0));
        x.guard(7, true);
        Check.due("by guard", x.reckoned(), "");
        Check.due("a refusal leaves it", x.number(7, 1, 1) + x.reckoned(), "-9");
        Check.due("by undoing", x.undo() + ":" + x.reckoned(), "3:1 241");
        x.clear(0);
        Check.due("by clear", x.reckoned(), "1 241");
        x.clear(0);
        Check.due("by clear of nothing", x.reckoned(), "");
        x.number(0, 0, 1);
        Check.due("0 for nothing", x.reckoned(), "1 241");
        Check.enter(x, "a0", "0");
        Check.due("a formula for what is alike", x.reckoned(), "0");
        x.putIn(1, true, 7);
        Check.due("by putIn all", x.reckoned(), "0 1 241");
        Check.enter(x, "c0", "c0");
        Check.due("no ring", x.reckoned(), "");
        x.takeOut(1, true, 1);
        Check.due("by takeOut all but the ring", x.reckoned(), "0 1");
        Check.due("value", x.value(1), "#gone");
        Check.due("by fill", x.fill(0, 8, 9) + ":" + x.reckoned(), "2:8 9");
        x.goal(0, 0, 4, 1);
        Check.due("by goal the readers alone", x.reckoned(), "1");
        x.number(8, 1, 1);
        Check.due("goOn", x.goOn(0, true, 1) + ":" + x.reckoned(), "-2:");
    }

    private static void house(Sheetengine x, int... due) {
        for (int k = 0; k <= 9; k++) {
            Check.due("house(" + k + ")", x.house(k), due[k]);
        }
    }

    private static void house() {
        Sheetengine x = new Sheetengine();
        house(x, 0, 0, 0, 0, -1, 0, 0, 0, 0, 0);
        x.number(0, 1, 1);
        house(x, 1, 0, 0, 0, 0, 0, 0, 1, 0, 0);
        Check.enter(x, "b0", "a0/0");
        Check.enter(x, "c0", "isfault(b0)");
        house(x, 3, 2, 1, 0, 2, 0, 0, 3, 0, 0);
        Check.enter(x, "d0", "e0");
        Check.enter(x, "e0", "d0");
        Check.enter(x, "f0", "e0&c0");
        house(x, 6, 5, 4, 2, 2, 0, 0, 6, 0, 0);
        x.name(0, 0, 0);
        x.guard(9, true);
        x.guard(479, true);
        x.knock();
        x.undo();
        house(x, 6, 5, 4, 2, 2, 1, 1, 8, 1, 1);
        Check.badArgument("house(-1)", () -> x.house(-1));
        Check.badArgument("house(10)", () -> x.house(10));
        Sheetengine y = new Sheetengine();
        Check.enter(y, "a0", "a0");
        house(y, 1, 1, 1, 1, -1, 0, 0, 1, 0, 0);
    }

    private static void sound() {
        Sheetengine x = new Sheetengine();
        Check.enter(x, "a2", "sum(a3..b5)+a3+$a$3");
        Check.enter(x, "1:a3", "sum(a0..b3)&1:a3&1:b28");
        Check.enter(x, "c5", "if(true,1,c6)");
        Check.enter(x, "c6", "c5");
        Check.due("isSound()", x.isSound(), true);
        Check.due("it changes nothing", x.house(7) + x.formula(16), "4=sum(a3..b5)+a3+$a$3");
        x.guard(Check.at("c3"), true);
        Check.due("isSound() with a guard", x.isSound(), true);
        Check.enter(x, "h29", "1");
        Check.due("isSound() without room", x.isSound(), true);
        x.takeOut(0, false, 3);
        x.undo();
        Check.due("isSound() after steps", x.isSound(), true);
    }

    /** The digest, told once more by the calls that it stands for. */
    private static long told(Sheetengine x) {
        long d = 5904;
        for (int k = 0; k <= 9; k++) {
            d = d * 31 + x.house(k);
        }
        for (int place = 0; place < 480; place++) {
            if (x.ofPlace(place, 0) != 0) {
                d = d * 31 + place;
                for (int k = 0; k <= 9; k++) {
                    d = d * 31 + x.ofPlace(place, k);
                }
                d = d * 31 + x.value(place).length();
                d = d * 31 + x.formula(place).length();
                d = d * 31 + x.shown(place).length();
                d = d * 31 + x.why(place).length();
            }
        }
        d = d * 31 + x.input().length();
        d = d * 31 + x.slip();
        d = d * 31 + x.reckoned().length();
        for (int sheet = 0; sheet < 2; sheet++) {
            d = d * 31 + x.sorted(sheet * 240, sheet * 240 + 239, 0, false).length();
            d = d * 31 + x.grouped(sheet * 240, sheet * 240 + 239, 0, 1).length();
        }
        return d * 31 + (x.isSound() ? 1 : 0);
    }

    private static void digests() {
        Sheetengine x = new Sheetengine();
        Check.due("digest() of the new object", x.digest(), told(x));
        Check.due("the same again", x.digest(), told(x));
        x.number(0, 7, 3);
        x.text(8, 4);
        x.number(1, 1, 3);
        Check.enter(x, "b1", "a0*b0+1:a2");
        Check.enter(x, "1:a2", "b1");
        Check.enter(x, "1:b2", "1/0&count(1:a0..b1)");
        x.form(0, 2);
        x.guard(1, true);
        x.undo();
        x.knock();
        Check.type(x, "sum(a0..b1)+");
        Check.due("digest()", x.digest(), told(x));
        x.rub(1);
        Check.due("digest() without a slip", x.digest(), told(x));
        x.takeOut(0, false, 0);
        Check.due("digest() after takeOut", x.digest(), told(x));
        Check.due("it is a question", x.house(7), 8);
    }
}
