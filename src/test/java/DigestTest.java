import java.math.BigInteger;

/** Promise 36, told once more in numbers without an end, which are cut to 64 bits last. */
public final class DigestTest {
    private static BigInteger d;

    public static void main(String[] args) {
        ofNothing();
        ofAll();
        wraps();
        each();
        Check.end();
    }

    private static void add(long v) {
        d = d.multiply(BigInteger.valueOf(31)).add(BigInteger.valueOf(v));
    }

    /** The checksum that is due by the calls that it stands for, as a number of 64 bits. */
    static BigInteger told(Sheetengine x) {
        BigInteger whole = whole(x);
        return BigInteger.valueOf(whole.longValue());
    }

    private static BigInteger whole(Sheetengine x) {
        d = BigInteger.valueOf(5904);
        for (int what = 0; what <= 9; what++) {
            add(x.house(what));
        }
        for (int place = 0; place < 480; place++) {
            if (!x.why(place).equals(" = ")) {
                add(place);
                for (int what = 0; what <= 9; what++) {
                    add(x.ofPlace(place, what));
                }
                add(x.value(place).length());
                add(x.formula(place).length());
                add(x.shown(place).length());
                add(x.why(place).length());
            }
        }
        add(x.input().length());
        add(x.slip());
        add(x.reckoned().length());
        for (int first = 0; first <= 240; first += 240) {
            add(x.sorted(first, first + 239, 0, false).length());
            add(x.grouped(first, first + 239, 0, 1).length());
        }
        add(x.isSound() ? 1 : 0);
        return d;
    }

    /** A new object: no GREATEST LEVEL, no SLIP but 0, 79 signs of sorted() and 3 of grouped(). */
    private static void ofNothing() {
        d = BigInteger.valueOf(5904);
        for (int v : new int[] {0, 0, 0, 0, -1, 0, 0, 0, 0, 0, 0, 0, 0, 79, 3, 79, 3, 1}) {
            add(v);
        }
        Check.due("digest of a new object", new Sheetengine().digest(), d.longValue());
        Check.due("told by its calls", told(new Sheetengine()).longValue(), d.longValue());
        Check.due("it is beyond 64 bits", d.bitLength() > 64, true);
    }

    private static void ofAll() {
        Check.due("digest of the scene", Twin.scene().digest(), told(Twin.scene()).longValue());
        Check.due("digest of 60 cells", Twin.full().digest(), told(Twin.full()).longValue());
        Sheetengine x = Twin.scene();
        x.number(479, 1, 3);
        x.number(478, 7, 1);
        x.number(477, 1, 1);
        Check.due("digest with the last places", x.digest(), told(x).longValue());
        x.rub(30);
        Check.due("digest without an input", x.digest(), told(x).longValue());
        x.token(1, 55, 0, 0);
        Check.due("digest without a slip", x.digest(), told(x).longValue());
        x.takeOut(1, true, 0);
        Check.due("digest behind takeOut", x.digest(), told(x).longValue());
        Check.due("digest twice", x.digest(), x.digest());
    }

    /** It wraps around to both sides: the lowest 64 bits of ever larger numbers are positive and negative. */
    private static void wraps() {
        int below = 0;
        int above = 0;
        for (int k = 0; k < 20; k++) {
            Sheetengine x = Twin.scene();
            x.number(100 + 19 * k, k, 7);
            BigInteger whole = whole(x);
            Check.due("digest " + k, x.digest(), whole.longValue());
            Check.due("more than 64 bits " + k, whole.bitLength() > 300, true);
            below += x.digest() < 0 ? 1 : 0;
            above += x.digest() > 0 ? 1 : 0;
        }
        Check.due("both signs came", below > 0 && above > 0, true);
    }

    /** Each of the values that it is made of changes it, as it changes what is told. */
    private static void each() {
        Twin.Act[] acts = {x -> x.knock(), x -> x.guard(9, true), x -> x.form(0, 3), x -> x.rub(1), x -> x.undo(), x -> x.redo(),
            x -> x.name(5, 0, 0), x -> x.clear(Check.at("g0")), x -> x.number(Check.at("b9"), 1000, 3), x -> x.number(Check.at("a9"), 1000, 3),
            x -> x.text(Check.at("1:a0"), 10), x -> x.clear(Check.at("1:b0")), x -> x.token(0, 7, 0, 0), x -> x.truth(Check.at("1:a9"), true)};
        long before = Twin.scene().digest();
        for (int k = 0; k < acts.length; k++) {
            Sheetengine x = Twin.scene();
            acts[k].on(x);
            Check.due("digest behind the act " + k, x.digest(), told(x).longValue());
            Check.due("it is another one behind the act " + k, x.digest() != before, true);
        }
    }
}
