import java.math.BigInteger;

/** Promises 14 to 18: reckon, compare, sign, bits and word. */
public final class ResultsTest {
    public static void main(String[] args) {
        reckons();
        reckonsInPlace();
        reckonsToTheLimit();
        reckonsLong();
        compares();
        tellsBitsAndWords();
        refuses();
        Check.end();
    }

    /** Result r becomes what a text without variables says. */
    private static void put(GradientDesk desk, int r, String text) {
        int part = Check.define(desk, text, 7);
        Check.due(text + " is a number", desk.number(part, r) ? 1 : 0, 1);
    }

    private static void reckon(GradientDesk desk, int what, int r, int i, int j, String due) {
        Check.due("reckon", desk.reckon(what, r, i, j) ? 1 : 0, 1);
        Check.due("reckon(" + what + ", " + r + ", " + i + ", " + j + ")", Check.result(desk, r), due);
    }

    private static void reckons() {
        GradientDesk desk = new GradientDesk();
        put(desk, 0, "1/6");
        put(desk, 1, "-3/10");
        reckon(desk, 0, 2, 0, 1, "-2/15");
        reckon(desk, 1, 3, 0, 1, "7/15");
        reckon(desk, 1, 4, 1, 0, "-7/15");
        reckon(desk, 2, 5, 0, 1, "-1/20");
        reckon(desk, 0, 6, 3, 4, "0/1");
        reckon(desk, 2, 6, 3, 6, "0/1");
        reckon(desk, 1, 6, 3, 3, "0/1");
        reckon(desk, 2, 6, 1, 1, "9/100");
        reckon(desk, 1, 6, 6, 7, "9/100");
        Check.due("the others stay", Check.result(desk, 0) + Check.result(desk, 1), "1/6-3/10");
    }

    private static void reckonsInPlace() {
        GradientDesk desk = new GradientDesk();
        put(desk, 0, "2/3");
        put(desk, 7, "5");
        reckon(desk, 0, 0, 0, 7, "17/3");
        reckon(desk, 1, 0, 7, 0, "-2/3");
        reckon(desk, 2, 0, 0, 0, "4/9");
        reckon(desk, 0, 0, 0, 0, "8/9");
        reckon(desk, 1, 0, 0, 0, "0/1");
    }

    /** Result r becomes base^n, and result 7 the base. */
    private static void putPower(GradientDesk desk, int r, String base, int n) {
        put(desk, r, "1");
        put(desk, 7, base);
        for (int bit = 10; bit >= 0; bit--) {
            desk.reckon(2, r, r, r);
            if ((n >> bit & 1) == 1) {
                desk.reckon(2, r, r, 7);
            }
        }
    }

    private static void reckonsToTheLimit() {
        GradientDesk desk = new GradientDesk();
        putPower(desk, 0, "2", 999);
        Check.due("2^999", desk.bits(0, 0), 1000);
        reckon(desk, 2, 1, 0, 0, BigInteger.ONE.shiftLeft(1998) + "/1");
        Check.due("2^1998", desk.bits(1, 0), 1999);
        notReckoned(desk, 1, 0);
        reckon(desk, 0, 2, 0, 0, BigInteger.ONE.shiftLeft(1000) + "/1");
        Check.due("2^1000", desk.bits(2, 0), 1001);
        notReckoned(desk, 2, 7);
        putPower(desk, 4, "-1/2", 999);
        Check.due("-1/2^999", desk.bits(4, 1), 1000);
        Check.due("-1/2^999", Check.result(desk, 4), "-1/" + BigInteger.ONE.shiftLeft(999));
        reckon(desk, 2, 5, 4, 0, "-1/1");
        reckon(desk, 2, 5, 4, 4, "1/" + BigInteger.ONE.shiftLeft(1998));
        notReckoned(desk, 5, 7);
        reckon(desk, 2, 5, 4, 7, "1/" + BigInteger.ONE.shiftLeft(1000));
        notReckoned(desk, 5, 7);
        reckon(desk, 0, 5, 4, 0, BigInteger.ONE.shiftLeft(1998).subtract(BigInteger.ONE) + "/" + BigInteger.ONE.shiftLeft(999));
    }

    /** Both ways round, with each what, nothing is done and nothing changed. */
    private static void notReckoned(GradientDesk desk, int i, int j) {
        String before = Check.result(desk, 6);
        for (int what = 0; what < 3; what++) {
            Check.due("too long", desk.reckon(what, 6, i, j) ? 1 : 0, 0);
            Check.due("too long", desk.reckon(what, 6, j, i) ? 1 : 0, 0);
        }
        Check.due("nothing is changed", Check.result(desk, 6), before);
    }

    private static void reckonsLong() {
        // A whole number less 1 / q: the rest comes out one too small in each long division.
        GradientDesk desk = new GradientDesk();
        put(desk, 0, "9998^9*9998^9");
        put(desk, 1, "1/9999^9");
        BigInteger m = BigInteger.valueOf(9998).pow(18);
        BigInteger q = BigInteger.valueOf(9999).pow(9);
        reckon(desk, 1, 2, 0, 1, m.multiply(q).subtract(BigInteger.ONE) + "/" + q);
        reckon(desk, 0, 3, 0, 1, m.multiply(q).add(BigInteger.ONE) + "/" + q);
        reckon(desk, 2, 4, 2, 3, m.multiply(q).pow(2).subtract(BigInteger.ONE) + "/" + q.pow(2));
        reckon(desk, 0, 5, 2, 3, m.shiftLeft(1) + "/1");
        reckon(desk, 1, 5, 5, 0, m + "/1");
        put(desk, 5, "7777^9*9999^9");
        reckon(desk, 2, 6, 5, 1, BigInteger.valueOf(7777).pow(9) + "/1");
    }

    private static void compares() {
        GradientDesk desk = new GradientDesk();
        String[] rising = {"-9999", "-7/2", "-3/10", "0", "1/6", "1/5", "9998/9999", "9999"};
        for (int r = 0; r < 8; r++) {
            put(desk, r, rising[r]);
        }
        for (int i = 0; i < 8; i++) {
            for (int j = 0; j < 8; j++) {
                Check.due("compare " + rising[i] + " with " + rising[j], desk.compare(i, j), Integer.compare(i, j));
            }
        }
        putPower(desk, 0, "2", 999);
        desk.reckon(2, 1, 0, 0);
        put(desk, 2, "1/2");
        Check.due("2^999 and 2^1998", desk.compare(0, 1), -1);
        Check.due("2^1998 and 2^999", desk.compare(1, 0), 1);
        Check.due("2^1998 and itself", desk.compare(1, 1), 0);
        put(desk, 3, "-1");
        desk.reckon(2, 3, 0, 3);
        desk.reckon(1, 4, 3, 2);
        Check.due("-2^999 and -2^999-1/2", desk.compare(3, 4), 1);
        Check.due("-2^999-1/2 and -2^999", desk.compare(4, 3), -1);
        // Both with a p and a q of 2,000 bits.
        putPower(desk, 5, "9998/9999", 75);
        desk.reckon(2, 5, 5, 5);
        putPower(desk, 6, "9997/9998", 75);
        desk.reckon(2, 6, 6, 6);
        Check.due("long p", desk.bits(5, 0), 1994);
        Check.due("long q", desk.bits(6, 1), 1994);
        Check.due("long", desk.compare(5, 6), 1);
        Check.due("long", desk.compare(6, 5), -1);
        Check.due("long", desk.compare(6, 6), 0);
    }

    private static void tellsBitsAndWords() {
        GradientDesk desk = new GradientDesk();
        tells(desk, "0", 0, 0, 1);
        tells(desk, "1", 1, 1, 1);
        tells(desk, "-1", -1, 1, 1);
        tells(desk, "-8/9", -1, 4, 4);
        tells(desk, "255/256", 1, 8, 9);
        tells(desk, "9999^9", 1, 120, 1);
        tells(desk, "-(1/9999)^9", -1, 1, 120);
        tells(desk, "2^8*2^8*2^8*2^7", 1, 32, 1);
        tells(desk, "2^8*2^8*2^8*2^8", 1, 33, 1);
        tells(desk, "2^8*2^8*2^8*2^8-1", 1, 32, 1);
        tells(desk, "2^8*2^8*2^8*2^6", 1, 31, 1);
        putPower(desk, 0, "2", 991);
        put(desk, 7, "9999^3");
        desk.reckon(1, 0, 0, 7);
        words(desk, 0, BigInteger.ONE.shiftLeft(991).subtract(BigInteger.valueOf(9999).pow(3)), BigInteger.ONE);
        desk.reckon(2, 0, 0, 0);
        words(desk, 0, BigInteger.ONE.shiftLeft(991).subtract(BigInteger.valueOf(9999).pow(3)).pow(2), BigInteger.ONE);
    }

    private static void tells(GradientDesk desk, String text, int sign, int upperBits, int lowerBits) {
        put(desk, 3, text);
        Check.due("sign of " + text, desk.sign(3), sign);
        Check.due("bits of p of " + text, desk.bits(3, 0), upperBits);
        Check.due("bits of q of " + text, desk.bits(3, 1), lowerBits);
        Check.due("p has that many bits in " + text, Check.size(desk, 3, 0).bitLength(), upperBits);
        Check.due("q has that many bits in " + text, Check.size(desk, 3, 1).bitLength(), lowerBits);
    }

    private static void words(GradientDesk desk, int r, BigInteger p, BigInteger q) {
        for (int i = 0; i < 64; i++) {
            Check.due("word " + i + " of p", desk.word(r, 0, i), p.shiftRight(32 * i).intValue());
            Check.due("word " + i + " of q", desk.word(r, 1, i), q.shiftRight(32 * i).intValue());
        }
    }

    private static void refuses() {
        GradientDesk desk = new GradientDesk();
        put(desk, 0, "3/4");
        int[] wrong = {-1, 8, Integer.MIN_VALUE, Integer.MAX_VALUE};
        for (int k : wrong) {
            Check.dueThrow("reckon r", () -> desk.reckon(0, k, 0, 0) ? 1 : 0, Check.OUT_OF_BOUNDS);
            Check.dueThrow("reckon i", () -> desk.reckon(0, 0, k, 0) ? 1 : 0, Check.OUT_OF_BOUNDS);
            Check.dueThrow("reckon j", () -> desk.reckon(0, 0, 0, k) ? 1 : 0, Check.OUT_OF_BOUNDS);
            Check.dueThrow("reckon j, what", () -> desk.reckon(3, 0, 0, k) ? 1 : 0, Check.OUT_OF_BOUNDS);
            Check.dueThrow("reckon what", () -> desk.reckon(k, 0, 0, 0) ? 1 : 0, Check.ILLEGAL_ARGUMENT);
            Check.dueThrow("compare i", () -> desk.compare(k, 0), Check.OUT_OF_BOUNDS);
            Check.dueThrow("compare j", () -> desk.compare(0, k), Check.OUT_OF_BOUNDS);
            Check.dueThrow("sign", () -> desk.sign(k), Check.OUT_OF_BOUNDS);
            Check.dueThrow("bits r", () -> desk.bits(k, 0), Check.OUT_OF_BOUNDS);
            Check.dueThrow("bits r, which", () -> desk.bits(k, 2), Check.OUT_OF_BOUNDS);
            Check.dueThrow("bits which", () -> desk.bits(0, k), Check.ILLEGAL_ARGUMENT);
            Check.dueThrow("word r", () -> desk.word(k, 0, 0), Check.OUT_OF_BOUNDS);
            Check.dueThrow("word r, which", () -> desk.word(k, 2, 0), Check.OUT_OF_BOUNDS);
            Check.dueThrow("word which", () -> desk.word(0, k, 0), Check.ILLEGAL_ARGUMENT);
        }
        int[] wrongWords = {-1, 64, Integer.MIN_VALUE, Integer.MAX_VALUE};
        for (int i : wrongWords) {
            Check.dueThrow("word i", () -> desk.word(0, 0, i), Check.OUT_OF_BOUNDS);
            Check.dueThrow("word i, which", () -> desk.word(0, 2, i), Check.OUT_OF_BOUNDS);
        }
        Check.dueThrow("reckon what 3", () -> desk.reckon(3, 0, 0, 0) ? 1 : 0, Check.ILLEGAL_ARGUMENT);
        Check.dueThrow("bits which 2", () -> desk.bits(0, 2), Check.ILLEGAL_ARGUMENT);
        Check.dueThrow("word which 2", () -> desk.word(0, 2, 63), Check.ILLEGAL_ARGUMENT);
        Check.due("what throws changes nothing", Check.result(desk, 0), "3/4");
    }
}
