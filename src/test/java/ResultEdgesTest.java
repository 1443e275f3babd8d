import java.math.BigInteger;

/** The edges of RESULTS and of THE POINT: 1,000 bits, the longest results, words, the ends of set and along. */
public final class ResultEdgesTest {
    private static final BigInteger ONE = BigInteger.ONE;

    public static void main(String[] args) {
        thousandBits();
        notDoneChangesNothing();
        resultIsOneOfBoth();
        longestResults();
        comparesTheLongest();
        comparesTheNearest();
        signs();
        bitsAroundWords();
        wordsAroundTheEnd();
        numbersBecomeResults();
        endsOfThePoint();
        endsOfADirection();
        resultsOfOthersStay();
        derivativesWithoutRoom();
        partsThatStandWhereOthersStood();
        quotientsOfOnes();
        Check.end();
    }

    /** Result r becomes base^n, and result 7 the base. */
    private static void put(GradientDesk desk, int r, String base, int n) {
        put(desk, r, "1");
        put(desk, 7, base);
        for (int bit = 10; bit >= 0; bit--) {
            Check.due("reckon", desk.reckon(2, r, r, r) ? 1 : 0, 1);
            if ((n >> bit & 1) == 1) {
                Check.due("reckon", desk.reckon(2, r, r, 7) ? 1 : 0, 1);
            }
        }
    }

    private static void put(GradientDesk desk, int r, String text) {
        int part = Check.define(desk, text, 7);
        Check.due(text + " is a number", desk.number(part, r) ? 1 : 0, 1);
    }

    /** With result 0 being 3/5 and result 1 the one that is looked at, each way round. */
    private static void reckoned(GradientDesk desk, boolean done) {
        for (int what = 0; what < 3; what++) {
            Check.due("reckon(" + what + ", 2, 0, 1)", desk.reckon(what, 2, 0, 1) ? 1 : 0, done ? 1 : 0);
            Check.due("reckon(" + what + ", 2, 1, 0)", desk.reckon(what, 2, 1, 0) ? 1 : 0, done ? 1 : 0);
            Check.due("reckon(" + what + ", 2, 1, 1)", desk.reckon(what, 2, 1, 1) ? 1 : 0, done ? 1 : 0);
            Check.due("reckon(" + what + ", 2, 0, 0)", desk.reckon(what, 2, 0, 0) ? 1 : 0, 1);
        }
    }

    private static void thousandBits() {
        for (int n = 998; n <= 1000; n++) {
            thousandBits("2", n, 0);
            thousandBits("-2", n, 0);
            thousandBits("1/2", n, 1);
            thousandBits("-1/2", n, 1);
        }
    }

    private static void thousandBits(String base, int n, int which) {
        GradientDesk desk = new GradientDesk();
        put(desk, 1, base, n);
        put(desk, 0, "3/5");
        Check.due(base + "^" + n, desk.bits(1, which), n + 1);
        reckoned(desk, n < 1000);
        // A result that is too long may still be compared, and become another one.
        Check.due("compare", desk.compare(1, 1), 0);
        Check.due("a long one is replaced", desk.reckon(0, 1, 0, 0) ? 1 : 0, 1);
        Check.due("6/5", Check.result(desk, 1), "6/5");
        put(desk, 1, "7");
        reckoned(desk, true);
    }

    private static void notDoneChangesNothing() {
        for (int k = 0; k < 8; k++) {
            int r = k;
            for (int what = 0; what < 3; what++) {
                int w = what;
                State.stays("reckon that is not done", ResultEdgesTest::withLongResults, desk -> {
                    Check.due("not done", desk.reckon(w, r, 1, 0) ? 1 : 0, 0);
                    Check.due("not done", desk.reckon(w, r, 3, 2) ? 1 : 0, 0);
                    Check.due("not done", desk.reckon(w, r, r, 1) ? 1 : 0, 0);
                });
            }
        }
    }

    /** Result 1 has a p, result 2 a q of 1,001 bits. */
    private static GradientDesk withLongResults() {
        GradientDesk desk = new GradientDesk();
        put(desk, 1, "-2", 1000);
        put(desk, 2, "1/2", 1000);
        put(desk, 0, "3/5");
        put(desk, 3, "7");
        put(desk, 7, "-5/9");
        return desk;
    }

    private static void resultIsOneOfBoth() {
        for (int what = 0; what < 3; what++) {
            String[] due = {"-2/15", "22/15", "-8/15"};
            String[] same = {"4/3", "0/1", "4/9"};
            GradientDesk desk = new GradientDesk();
            put(desk, 0, "2/3");
            put(desk, 1, "-4/5");
            Check.due("done", desk.reckon(what, 0, 0, 1) ? 1 : 0, 1);
            Check.due("r is i", Check.result(desk, 0), due[what]);
            Check.due("the other stays", Check.result(desk, 1), "-4/5");
            put(desk, 0, "2/3");
            Check.due("done", desk.reckon(what, 1, 0, 1) ? 1 : 0, 1);
            Check.due("r is j", Check.result(desk, 1), due[what]);
            Check.due("the other stays", Check.result(desk, 0), "2/3");
            Check.due("done", desk.reckon(what, 0, 0, 0) ? 1 : 0, 1);
            Check.due("r is i and j", Check.result(desk, 0), same[what]);
        }
    }

    /** Result r becomes a whole number of 1,000 bits over this q; results 6 and 7 are used. */
    private static void putLong(GradientDesk desk, int r, int minus, String prime, String rest) {
        put(desk, r, "2", 999);
        put(desk, 6, Integer.toString(minus));
        desk.reckon(1, 6, r, 6);
        desk.reckon(0, r, r, 6);
        put(desk, 6, prime, 75);
        desk.reckon(2, r, r, 6);
        put(desk, 6, rest);
        desk.reckon(2, r, r, 6);
    }

    private static BigInteger upper(int minus) {
        return ONE.shiftLeft(1000).subtract(BigInteger.valueOf(minus));
    }

    private static BigInteger lower(int prime, int rest) {
        return BigInteger.valueOf(prime).pow(75).multiply(BigInteger.valueOf(rest));
    }

    /** Four numbers of 1,000 bits each make a sum with 2,001 bits in p and 2,000 in q. */
    private static void longestResults() {
        GradientDesk desk = new GradientDesk();
        putLong(desk, 0, 1, "1/9967", "1/13");
        putLong(desk, 1, 1, "1/9949", "1/14");
        BigInteger p = upper(1);
        BigInteger x = lower(9967, 13);
        BigInteger y = lower(9949, 14);
        looksLike(desk, 0, p, x);
        looksLike(desk, 1, p, y);
        Check.due("bits of p", desk.bits(0, 0), 1000);
        Check.due("bits of q", desk.bits(0, 1), 1000);
        Check.due("sum", desk.reckon(0, 2, 0, 1) ? 1 : 0, 1);
        looksLike(desk, 2, p.multiply(x.add(y)), x.multiply(y));
        Check.due("bits of p", desk.bits(2, 0), 2001);
        Check.due("bits of q", desk.bits(2, 1), 2000);
        Check.due("difference", desk.reckon(1, 3, 0, 1) ? 1 : 0, 1);
        looksLike(desk, 3, p.multiply(y.subtract(x)), x.multiply(y));
        Check.due("difference", desk.reckon(1, 3, 1, 0) ? 1 : 0, 1);
        looksLike(desk, 3, p.multiply(x.subtract(y)), x.multiply(y));
        Check.due("product", desk.reckon(2, 4, 0, 1) ? 1 : 0, 1);
        looksLike(desk, 4, p.multiply(p), x.multiply(y));
        Check.due("difference with itself", desk.reckon(1, 5, 0, 0) ? 1 : 0, 1);
        looksLike(desk, 5, BigInteger.ZERO, ONE);
        Check.due("2,001 bits are not reckoned with", desk.reckon(0, 5, 2, 5) ? 1 : 0, 0);
    }

    private static void looksLike(GradientDesk desk, int r, BigInteger p, BigInteger q) {
        BigInteger common = p.gcd(q);
        BigInteger upper = p.divide(common);
        BigInteger lower = q.divide(common);
        Check.due("result " + r, Check.result(desk, r), upper + "/" + lower);
        Check.due("sign of " + r, desk.sign(r), upper.signum());
        Check.due("bits of p of " + r, desk.bits(r, 0), upper.abs().bitLength());
        Check.due("bits of q of " + r, desk.bits(r, 1), lower.bitLength());
        for (int i = 0; i < 64; i++) {
            Check.due("word " + i, desk.word(r, 0, i), upper.abs().shiftRight(32 * i).intValue());
            Check.due("word " + i, desk.word(r, 1, i), lower.shiftRight(32 * i).intValue());
        }
    }

    private static void comparesTheLongest() {
        GradientDesk desk = new GradientDesk();
        putLong(desk, 0, 1, "1/9967", "1/13");
        putLong(desk, 1, 1, "1/9949", "1/14");
        putLong(desk, 2, 3, "1/9949", "1/14");
        desk.reckon(0, 3, 0, 1);
        desk.reckon(0, 4, 0, 2);
        desk.reckon(0, 5, 1, 0);
        order(desk, 3, 4, 1);
        order(desk, 3, 5, 0);
        put(desk, 7, "-1");
        for (int r = 0; r < 3; r++) {
            desk.reckon(2, r, r, 7);
        }
        desk.reckon(0, 5, 0, 1);
        desk.reckon(0, 6, 0, 2);
        order(desk, 5, 6, -1);
        order(desk, 3, 5, 1);
        order(desk, 7, 5, 1);
    }

    private static void order(GradientDesk desk, int i, int j, int due) {
        Check.due("compare(" + i + ", " + j + ")", desk.compare(i, j), due);
        Check.due("compare(" + j + ", " + i + ")", desk.compare(j, i), -due);
        Check.due("compare(" + i + ", " + i + ")", desk.compare(i, i), 0);
    }

    private static void comparesTheNearest() {
        String[] rising = {"-9999", "-9998", "-9999/9998", "-1", "-9998/9999", "-9997/9998", "-1/9998", "-1/9999", "0", "1/9999",
            "1/9998", "4998/9997", "4999/9999", "1/2", "5000/9999", "9997/9998", "9998/9999", "1", "9999/9998", "9998", "9999"};
        for (int i = 0; i < rising.length; i++) {
            for (int j = 0; j < rising.length; j++) {
                GradientDesk desk = new GradientDesk();
                put(desk, 3, rising[i]);
                put(desk, 5, rising[j]);
                Check.due("compare " + rising[i] + " with " + rising[j], desk.compare(3, 5), Integer.compare(i, j));
            }
        }
    }

    private static void signs() {
        GradientDesk desk = new GradientDesk();
        String[] texts = {"-9999", "-1/9999", "0", "-0", "1/9999", "9999"};
        int[] due = {-1, -1, 0, 0, 1, 1};
        for (int k = 0; k < texts.length; k++) {
            put(desk, k, texts[k]);
            Check.due("sign of " + texts[k], desk.sign(k), due[k]);
        }
        desk.reckon(0, 6, 1, 4);
        Check.due("sign of a sum of 0", desk.sign(6), 0);
        Check.due("its q", desk.bits(6, 1), 1);
        desk.reckon(2, 6, 2, 0);
        Check.due("sign of 0 times what is below 0", desk.sign(6), 0);
        Check.due("its q", Check.result(desk, 6), "0/1");
    }

    /** Sizes next to where a word or one of the class's own digits ends. */
    private static void bitsAroundWords() {
        int[] ends = {1, 2, 30, 31, 32, 33, 61, 62, 63, 64, 65, 93, 95, 96, 97, 124, 127, 128, 129, 310, 320, 961, 991, 992, 993};
        for (int n : ends) {
            GradientDesk desk = new GradientDesk();
            put(desk, 0, "2", n);
            put(desk, 1, "1");
            desk.reckon(1, 2, 0, 1);
            desk.reckon(0, 3, 0, 1);
            looksLike(desk, 0, ONE.shiftLeft(n), ONE);
            looksLike(desk, 2, ONE.shiftLeft(n).subtract(ONE), ONE);
            looksLike(desk, 3, ONE.shiftLeft(n).add(ONE), ONE);
            put(desk, 4, "-1/2", n);
            looksLike(desk, 4, ONE.negate().pow(n), ONE.shiftLeft(n));
            desk.reckon(0, 5, 4, 1);
            looksLike(desk, 5, ONE.shiftLeft(n).add(ONE.negate().pow(n)), ONE.shiftLeft(n));
        }
    }

    private static void wordsAroundTheEnd() {
        GradientDesk desk = new GradientDesk();
        put(desk, 0, "-2", 31);
        Check.due("bit 31 alone", desk.word(0, 0, 0), Integer.MIN_VALUE);
        Check.due("beyond it", desk.word(0, 0, 1), 0);
        Check.due("the last word", desk.word(0, 0, 63), 0);
        Check.due("q", desk.word(0, 1, 0), 1);
        Check.due("the last word of q", desk.word(0, 1, 63), 0);
        put(desk, 0, "2", 32);
        Check.due("bit 32 alone", desk.word(0, 0, 0), 0);
        Check.due("bit 32 alone", desk.word(0, 0, 1), 1);
        put(desk, 1, "1");
        desk.reckon(1, 0, 0, 1);
        Check.due("32 bits", desk.word(0, 0, 0), -1);
        put(desk, 0, "2", 999);
        desk.reckon(2, 0, 0, 0);
        Check.due("bit 1,998", desk.word(0, 0, 62), 1 << 14);
        Check.due("before it", desk.word(0, 0, 61), 0);
        Check.due("beyond it", desk.word(0, 0, 63), 0);
        put(desk, 0, "0");
        Check.due("0", desk.word(0, 0, 0), 0);
        Check.due("the q of 0", desk.word(0, 1, 0), 1);
        Check.due("0 behind what was long", desk.word(0, 0, 62), 0);
    }

    private static void numbersBecomeResults() {
        String[] due = {"0/1", "no", "3/4", "no", "no", "-1/1", "no"};
        for (int r = 0; r < 8; r++) {
            GradientDesk desk = new GradientDesk();
            Check.define(desk, "0*b-3/4*a", 0);
            Check.due("parts", Check.shelf(desk), "0 b 3/4 a [2*3] -1 [5*4]");
            for (int i = 0; i < due.length; i++) {
                desk.number(2, r);
                boolean number = desk.number(i, r);
                Check.due("number(" + i + ", " + r + ")", number ? 1 : 0, due[i].equals("no") ? 0 : 1);
                Check.due("the result", Check.result(desk, r), due[i].equals("no") ? "0/1" : due[i]);
            }
        }
        GradientDesk desk = new GradientDesk();
        Check.define(desk, "1+" + Check.power("1/2", 399), 0);
        desk.number(desk.made() - 1, 0);
        looksLike(desk, 0, ONE.shiftLeft(399).add(ONE), ONE.shiftLeft(399));
        Check.due("400 bits above", desk.bits(0, 0), 400);
        Check.due("400 bits below", desk.bits(0, 1), 400);
    }

    private static void at(int variable, int p, int q, String due) {
        GradientDesk desk = new GradientDesk();
        desk.set(variable, p, q);
        Check.define(desk, "abc".substring(variable, variable + 1), 0);
        desk.gradient(0);
        Check.due("at " + p + "/" + q, Check.result(desk, 0), due);
        Check.define(desk, "a+b+c", 0);
        desk.gradient(0);
        Check.due("the others are 0", Check.result(desk, 0), due);
    }

    private static void endsOfThePoint() {
        for (int v = 0; v < 3; v++) {
            at(v, 9999, 1, "9999/1");
            at(v, -9999, 1, "-9999/1");
            at(v, 9998, 9999, "9998/9999");
            at(v, -1, 9999, "-1/9999");
            at(v, 9999, 9999, "1/1");
            at(v, -9999, 9999, "-1/1");
            at(v, 0, 1, "0/1");
            at(v, 0, 9999, "0/1");
            at(v, 6666, 9999, "2/3");
            at(v, -9999, 6666, "-3/2");
        }
        GradientDesk desk = new GradientDesk();
        Check.define(desk, "a", 0);
        desk.gradient(0);
        desk.set(0, 5, 1);
        Check.due("set() alone changes no result", Check.result(desk, 0), "0/1");
        Check.define(desk, "2*a*b", 0);
        desk.set(1, 3, 4);
        desk.clear();
        Check.define(desk, "a*b", 0);
        desk.gradient(0);
        Check.due("the POINT stays behind clear()", Check.result(desk, 0), "15/4");
    }

    private static void endsOfADirection() {
        int[] ends = {-999, -1, 0, 1, 999};
        for (int x : ends) {
            for (int y : ends) {
                for (int z : ends) {
                    GradientDesk desk = new GradientDesk();
                    desk.set(0, 7, 1);
                    Check.define(desk, "2*a-3*b+5*c+b*c", 0);
                    desk.along(0, x, y, z);
                    Check.due("value", Check.result(desk, 4), "14/1");
                    Check.due("along " + x + ", " + y + ", " + z, Check.result(desk, 5), 2 * x - 3 * y + 5 * z + "/1");
                }
            }
        }
    }

    private static void resultsOfOthersStay() {
        String[] fresh = {"1/1", "2/1", "3/1", "4/1", "5/1", "6/1", "7/1", "8/1"};
        stays(fresh, "gradient", desk -> desk.gradient(0), 0, 3);
        stays(fresh, "along", desk -> desk.along(0, 1, 1, 1), 4, 5);
        for (int k = 0; k < 8; k++) {
            int r = k;
            stays(fresh, "number", desk -> desk.number(0, r), r, r);
            stays(fresh, "reckon", desk -> desk.reckon(2, r, 7, 7), r, r);
        }
    }

    /** Only the results from first to last become others. */
    private static void stays(String[] fresh, String what, java.util.function.Consumer<GradientDesk> call, int first, int last) {
        GradientDesk desk = new GradientDesk();
        desk.set(0, 99, 98);
        for (int r = 0; r < 8; r++) {
            put(desk, r, Integer.toString(r + 1));
        }
        desk.clear();
        Check.define(desk, "9/10*a+9*b+9*c", 0);
        call.accept(desk);
        for (int r = 0; r < 8; r++) {
            boolean other = !Check.result(desk, r).equals(fresh[r]);
            Check.due("another result " + r + " behind " + what, other ? 1 : 0, r >= first && r <= last ? 1 : 0);
        }
    }

    /** The values of derivatives are there also where their parts would be too many or too large. */
    private static void derivativesWithoutRoom() {
        GradientDesk desk = new GradientDesk();
        desk.set(0, 2, 1);
        desk.set(1, 3, 1);
        Check.define(desk, Check.power("1/2", 200), 0);
        Check.define(desk, "A*a*(a+b)", 1);
        Check.due("too large", desk.derive(1, 0, 2), GradientDesk.LARGE);
        desk.gradient(1);
        Check.due("value", Check.result(desk, 0), "5/" + ONE.shiftLeft(199));
        Check.due("by a", Check.result(desk, 1), "7/" + ONE.shiftLeft(200));
        Check.due("by b", Check.result(desk, 2), "1/" + ONE.shiftLeft(199));
        Check.due("by c", Check.result(desk, 3), "0/1");
        Check.define(desk, "a^2*b", 3);
        Check.fill(desk, 200);
        Check.due("too many", desk.derive(3, 0, 2), GradientDesk.FULL);
        desk.gradient(3);
        Check.due("by a", Check.result(desk, 1), "12/1");
        Check.due("by b", Check.result(desk, 2), "4/1");
        desk.along(3, 1, -2, 0);
        Check.due("along", Check.result(desk, 5), "4/1");
        Check.due("no part more", desk.made(), 200);
    }

    /** Behind clear() a number has the place of another sort of part, and is worked out by itself. */
    private static void partsThatStandWhereOthersStood() {
        String[] texts = {"a", "5/3", "b", "c", "0", "7*a", "a^2", "b*c", "a+c", "(a+b)^2*c", "1/3*b"};
        for (String before : texts) {
            for (String text : texts) {
                GradientDesk desk = new GradientDesk();
                point(desk);
                Check.define(desk, before, 0);
                desk.gradient(0);
                desk.clear();
                Check.define(desk, text, 0);
                GradientDesk fresh = new GradientDesk();
                point(fresh);
                Check.define(fresh, text, 0);
                sameGradient(text + " behind " + before, desk, fresh);
            }
        }
    }

    private static void point(GradientDesk desk) {
        desk.set(0, 2, 11);
        desk.set(1, 3, 13);
        desk.set(2, 5, 17);
    }

    private static void sameGradient(String what, GradientDesk desk, GradientDesk fresh) {
        desk.gradient(0);
        fresh.gradient(0);
        for (int r = 0; r < 4; r++) {
            Check.due("gradient of " + what, Check.result(desk, r), Check.result(fresh, r));
        }
    }

    /** Where all digits of a quotient are as high as can be, a long division is wrong most easily. */
    private static void quotientsOfOnes() {
        for (int n = 60; n <= 200; n++) {
            GradientDesk desk = new GradientDesk();
            put(desk, 0, "2", n);
            put(desk, 1, "1");
            desk.reckon(1, 0, 0, 1);
            put(desk, 1, "9999^9*9998^9");
            put(desk, 2, "1/9999^9*1/9998^9");
            desk.reckon(2, 3, 0, 1);
            desk.reckon(2, 3, 3, 2);
            Check.due("2^" + n + "-1", Check.result(desk, 3), ONE.shiftLeft(n).subtract(ONE) + "/1");
        }
    }
}
