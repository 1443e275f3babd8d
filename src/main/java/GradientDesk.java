import java.util.Arrays;
import java.util.NoSuchElementException;

/**
 * A desk for expressions in three variables that are worked out with exact fractions: their values,
 * their derivatives at a point, and derivatives as expressions again.
 */
public final class GradientDesk {
    public static final int SYNTAX = -1, UNKNOWN = -2, LARGE = -3, FULL = -4;

    private static final int TEXT_ROOM = 64;
    private static final int WRITTEN_ROOM = 250;
    private static final int PARTS = 200;
    private static final int NAMES = 8;
    private static final int VARIABLES = 3;
    private static final int RESULTS = 8;
    private static final int WORDS = 64;
    private static final int MOST_DEGREE = 8;
    private static final int MOST_SIZE = 400;
    private static final int MOST_BITS_TO_RECKON = 1000;

    private static final int NUMBER = 0, VARIABLE = 1, SUM = 2, PRODUCT = 3, POWER = 4;

    /** Digits have 31 bits, so that a product of two and two carries fit in a long above 0. */
    private static final int DIGIT_BITS = 31;
    private static final int DIGIT_MASK = 0x7fffffff;

    /** 400 bits, and a digit more. */
    private static final int PART_DIGITS = 14;
    /** A result has at most 2,001 bits: two products of 1,000 bits each, added. */
    private static final int RESULT_DIGITS = 66;
    /** Two results are compared by products of 4,002 bits. */
    private static final int WORK_DIGITS = 132;
    /** 400 bits of the coefficients, 24 times 14 of the point's q, 13 of a direction and a degree. */
    private static final int SLOPE_DIGITS = 28;

    private final char[] text;
    private int length;
    private int fault;
    private final int[] names;
    private final Fraction[] results;
    private final Divider divider;
    private final Reckoner reckoner;
    private final Shelf shelf;
    private final Grammar grammar;
    private final Maker maker;
    private final Slopes slopes;
    private final Scribe scribe;

    public GradientDesk() {
        text = new char[TEXT_ROOM];
        length = 0;
        fault = -1;
        names = new int[NAMES];
        Arrays.fill(names, -1);
        results = new Fraction[RESULTS];
        for (int r = 0; r < RESULTS; r++) {
            results[r] = new Fraction(RESULT_DIGITS);
        }
        divider = new Divider();
        reckoner = new Reckoner();
        shelf = new Shelf();
        grammar = new Grammar();
        maker = new Maker();
        slopes = new Slopes();
        scribe = new Scribe();
    }

    public int type(long w, int n) throws IllegalArgumentException, IllegalStateException {
        if (n < 1 || n > 8 || !areCharacters(w, n)) {
            throw new IllegalArgumentException();
        }
        if (length + n > TEXT_ROOM) {
            throw new IllegalStateException();
        }
        for (int k = 0; k < n; k++) {
            text[length + k] = (char) byteAt(w, k);
        }
        length += n;
        return length;
    }

    public int define(int name) throws IllegalArgumentException {
        needName(name);
        int size = length;
        length = 0;
        fault = grammar.findFault(text, size);
        if (fault >= 0) {
            return SYNTAX;
        }
        if (hasUnknownName(size)) {
            return UNKNOWN;
        }
        int before = shelf.count;
        return keep(maker.makeText(shelf, text, size, names), name, before);
    }

    public int place() {
        return fault;
    }

    public int derive(int of, int variable, int name)
            throws IllegalArgumentException, NoSuchElementException {
        needName(of);
        needName(name);
        needVariable(variable);
        needExpression(of);
        int before = shelf.count;
        return keep(shelf.makeDerivative(names[of], variable), name, before);
    }

    public int made() {
        return shelf.count;
    }

    public int parts(int name) throws IllegalArgumentException, NoSuchElementException {
        needName(name);
        needExpression(name);
        return shelf.mark(names[name]);
    }

    public int part(int i, int what) throws IndexOutOfBoundsException, IllegalArgumentException {
        needPart(i);
        Part part = shelf.row[i];
        switch (what) {
            case 0:
                return part.sort;
            case 1:
                return part.first;
            case 2:
                return part.second;
            case 3:
                return part.degree;
            case 4:
                return part.upperSize;
            case 5:
                return part.lowerSize;
            default:
                throw new IllegalArgumentException();
        }
    }

    public boolean number(int i, int r) throws IndexOutOfBoundsException {
        needPart(i);
        needResult(r);
        Part part = shelf.row[i];
        if (part.sort != NUMBER) {
            results[r].become(0, 1);
            return false;
        }
        results[r].copy(part.fraction);
        return true;
    }

    public void clear() {
        shelf.count = 0;
        Arrays.fill(names, -1);
    }

    public void set(int variable, int p, int q) throws IllegalArgumentException {
        needVariable(variable);
        if (p < -9999 || p > 9999 || q < 1 || q > 9999) {
            throw new IllegalArgumentException();
        }
        slopes.movePoint(variable, p, q);
    }

    public void gradient(int name) throws IllegalArgumentException, NoSuchElementException {
        needName(name);
        needExpression(name);
        for (int v = 0; v < VARIABLES; v++) {
            slopes.workOut(shelf, names[name], v == 0 ? 1 : 0, v == 1 ? 1 : 0, v == 2 ? 1 : 0);
            slopes.giveSlope(names[name], divider, results[1 + v]);
        }
        slopes.giveValue(names[name], divider, results[0]);
    }

    public void along(int name, int x, int y, int z)
            throws IllegalArgumentException, NoSuchElementException {
        needName(name);
        if (!isStep(x) || !isStep(y) || !isStep(z)) {
            throw new IllegalArgumentException();
        }
        needExpression(name);
        slopes.workOut(shelf, names[name], x, y, z);
        slopes.giveValue(names[name], divider, results[4]);
        slopes.giveSlope(names[name], divider, results[5]);
    }

    public boolean reckon(int what, int r, int i, int j)
            throws IndexOutOfBoundsException, IllegalArgumentException {
        needResult(r);
        needResult(i);
        needResult(j);
        if (what < 0 || what > 2) {
            throw new IllegalArgumentException();
        }
        if (isTooLongToReckon(results[i]) || isTooLongToReckon(results[j])) {
            return false;
        }
        if (what == 2) {
            reckoner.multiply(results[i], results[j]);
        } else {
            reckoner.add(results[i], results[j], what == 0 ? 1 : -1);
        }
        divider.reduce(reckoner.answer);
        results[r].copy(reckoner.answer);
        return true;
    }

    public int compare(int i, int j) throws IndexOutOfBoundsException {
        needResult(i);
        needResult(j);
        return reckoner.order(results[i], results[j]);
    }

    public int sign(int r) throws IndexOutOfBoundsException {
        needResult(r);
        return results[r].p.sign;
    }

    public int bits(int r, int which) throws IndexOutOfBoundsException, IllegalArgumentException {
        needResult(r);
        needWhich(which);
        return (which == 0 ? results[r].p : results[r].q).countBits();
    }

    public int word(int r, int which, int i)
            throws IndexOutOfBoundsException, IllegalArgumentException {
        needResult(r);
        if (i < 0 || i >= WORDS) {
            throw new IndexOutOfBoundsException();
        }
        needWhich(which);
        return (which == 0 ? results[r].p : results[r].q).wordAt(i);
    }

    public int write(int name) throws IllegalArgumentException, NoSuchElementException {
        needName(name);
        needExpression(name);
        return scribe.writePart(shelf, names[name]);
    }

    public int written(int i) throws IndexOutOfBoundsException {
        if (i < 0 || i >= scribe.keptSize) {
            throw new IndexOutOfBoundsException();
        }
        return scribe.kept[i];
    }

    /** Gives the name to what was made, or takes back all that was made since. */
    private int keep(int part, int name, int before) {
        if (part < 0) {
            shelf.count = before;
        } else {
            names[name] = part;
        }
        return part;
    }

    private boolean hasUnknownName(int size) {
        for (int i = 0; i < size; i++) {
            if (isName(text[i]) && names[text[i] - 'A'] < 0) {
                return true;
            }
        }
        return false;
    }

    private static boolean areCharacters(long w, int n) {
        for (int k = 0; k < n; k++) {
            int c = byteAt(w, k);
            if (c < 32 || c > 126) {
                return false;
            }
        }
        return true;
    }

    private static int byteAt(long w, int k) {
        return (int) (w >>> (8 * k)) & 255;
    }

    private static boolean isDigit(char c) {
        return c >= '0' && c <= '9';
    }

    private static boolean isVariable(char c) {
        return c >= 'a' && c <= 'c';
    }

    private static boolean isName(char c) {
        return c >= 'A' && c <= 'H';
    }

    private static boolean isStep(int x) {
        return x >= -999 && x <= 999;
    }

    private static long findSmallCommon(long x, long y) {
        long high = x;
        long low = y;
        for (int step = 0; step < 1000 && low != 0; step++) {
            long rest = high % low;
            high = low;
            low = rest;
        }
        return high;
    }

    private static boolean isTooLongToReckon(Fraction x) {
        return x.p.countBits() > MOST_BITS_TO_RECKON || x.q.countBits() > MOST_BITS_TO_RECKON;
    }

    private static void needName(int name) {
        if (name < 0 || name >= NAMES) {
            throw new IllegalArgumentException();
        }
    }

    private static void needVariable(int variable) {
        if (variable < 0 || variable >= VARIABLES) {
            throw new IllegalArgumentException();
        }
    }

    private static void needWhich(int which) {
        if (which < 0 || which > 1) {
            throw new IllegalArgumentException();
        }
    }

    private static void needResult(int r) {
        if (r < 0 || r >= RESULTS) {
            throw new IndexOutOfBoundsException();
        }
    }

    private void needPart(int i) {
        if (i < 0 || i >= shelf.count) {
            throw new IndexOutOfBoundsException();
        }
    }

    private void needExpression(int name) {
        if (names[name] < 0) {
            throw new NoSuchElementException();
        }
    }

    /** A whole number: its sign, and the digits of its size, the lowest first. */
    private static final class Whole {
        final int[] digits;
        int size;
        int sign;

        Whole(int room) {
            digits = new int[room];
        }

        /** n has at most 62 bits. */
        void become(long n) {
            sign = Long.signum(n);
            long rest = Math.abs(n);
            size = 0;
            while (rest > 0 && size < digits.length) {
                digits[size] = (int) (rest & DIGIT_MASK);
                rest >>>= DIGIT_BITS;
                size++;
            }
        }

        void copy(Whole x) {
            sign = x.sign;
            size = Math.min(x.size, digits.length);
            System.arraycopy(x.digits, 0, digits, 0, size);
        }

        /** The sign stays, but for 0. */
        void copySize(Whole x) {
            int before = sign;
            copy(x);
            sign = x.size == 0 ? 0 : before;
        }

        int digitAt(int i) {
            return i >= 0 && i < size ? digits[i] : 0;
        }

        boolean isOne() {
            return sign == 1 && size == 1 && digits[0] == 1;
        }

        /** The size as a long; only for what has two digits at most. */
        long asLong() {
            long upper = size > 1 ? digits[1] : 0;
            long lower = size > 0 ? digits[0] : 0;
            return upper << DIGIT_BITS | lower;
        }

        int countBits() {
            if (size == 0) {
                return 0;
            }
            return size * DIGIT_BITS + 1 - Integer.numberOfLeadingZeros(digitAt(size - 1));
        }

        int wordAt(int i) {
            int bit = 32 * i;
            int k = bit / DIGIT_BITS;
            long two = (long) digitAt(k + 1) << DIGIT_BITS | digitAt(k);
            return (int) (two >>> (bit % DIGIT_BITS));
        }

        int compareSize(Whole x) {
            if (size != x.size) {
                return size < x.size ? -1 : 1;
            }
            for (int i = size - 1; i >= 0; i--) {
                if (digits[i] != x.digits[i]) {
                    return digits[i] < x.digits[i] ? -1 : 1;
                }
            }
            return 0;
        }

        /** Neither x nor y may be this number. */
        void becomeProduct(Whole x, Whole y) {
            sign = x.sign * y.sign;
            size = sign == 0 ? 0 : Math.min(x.size + y.size, digits.length);
            for (int i = 0; i < size; i++) {
                digits[i] = 0;
            }
            for (int i = 0; i < x.size && i < size; i++) {
                long factor = x.digits[i];
                long carry = 0;
                int last = Math.min(y.size, size - i);
                for (int j = 0; j < last; j++) {
                    carry += factor * y.digits[j] + digits[i + j];
                    digits[i + j] = (int) carry & DIGIT_MASK;
                    carry >>>= DIGIT_BITS;
                }
                if (i + last < size) {
                    digits[i + last] = (int) carry;
                }
            }
            if (size > 0 && digits[size - 1] == 0) {
                size--;
            }
        }

        /** The row work is for what is under way; x may not be this number or work. */
        void becomePower(Whole x, int exponent, Whole work) {
            become(1);
            for (int k = 0; k < exponent; k++) {
                work.becomeProduct(this, x);
                copy(work);
            }
        }

        /** n is above 0. */
        void multiplySmall(int n) {
            long carry = 0;
            for (int i = 0; i < size; i++) {
                carry += (long) digits[i] * n;
                digits[i] = (int) carry & DIGIT_MASK;
                carry >>>= DIGIT_BITS;
            }
            if (carry > 0 && size < digits.length) {
                digits[size] = (int) carry;
                size++;
            }
        }

        /** Becomes the quotient by n, which is above 0; answers what is left. */
        int divideSmall(int n) {
            if (n <= 0) {
                return 0;
            }
            long rest = 0;
            for (int i = size - 1; i >= 0; i--) {
                long two = rest << DIGIT_BITS | digits[i];
                digits[i] = (int) (two / n);
                rest = two % n;
            }
            trim();
            return (int) rest;
        }

        void add(Whole x) {
            if (sign == 0) {
                copy(x);
            } else if (sign == x.sign) {
                addSize(x);
            } else if (x.sign != 0) {
                subtractSize(x, compareSize(x) < 0);
                trim();
            }
        }

        private void addSize(Whole x) {
            int carry = 0;
            int n = Math.min(Math.max(size, x.size) + 1, digits.length);
            for (int i = 0; i < n; i++) {
                long sum = carry;
                sum += i < size ? digits[i] : 0;
                sum += i < x.size ? x.digits[i] : 0;
                digits[i] = (int) sum & DIGIT_MASK;
                carry = (int) (sum >>> DIGIT_BITS);
            }
            size = n > 0 && digits[n - 1] == 0 ? n - 1 : n;
        }

        /** The lesser size is taken from the greater one, which gives the sign. */
        private void subtractSize(Whole x, boolean turned) {
            int borrow = 0;
            int n = Math.min(Math.max(size, x.size), digits.length);
            for (int i = 0; i < n; i++) {
                int own = i < size ? digits[i] : 0;
                int other = i < x.size ? x.digits[i] : 0;
                int difference = (turned ? other - own : own - other) - borrow;
                digits[i] = difference & DIGIT_MASK;
                borrow = difference < 0 ? 1 : 0;
            }
            sign = turned ? x.sign : sign;
            size = n;
        }

        void trim() {
            while (size > 0 && digits[size - 1] == 0) {
                size--;
            }
            sign = size == 0 ? 0 : sign;
        }

        /** Becomes the size of x, its bits moved up by fewer than a digit has, with a digit more. */
        void becomeRaised(Whole x, int shift) {
            sign = 1;
            size = Math.min(x.size + 1, digits.length);
            long carry = 0;
            for (int i = 0; i < size; i++) {
                long digit = i < x.size ? x.digits[i] : 0;
                carry |= digit << shift;
                digits[i] = (int) carry & DIGIT_MASK;
                carry >>>= DIGIT_BITS;
            }
        }

        /** Moves the bits down; whoever asks for it trims. */
        void lower(int shift) {
            for (int i = 0; i < size; i++) {
                long above = i + 1 < size ? digits[i + 1] : 0;
                digits[i] = (int) ((above << DIGIT_BITS | digits[i]) >>> shift) & DIGIT_MASK;
            }
        }
    }

    /** p / q with q 1 or more; whoever fills it sees to it that there is no common divisor. */
    private static final class Fraction {
        final Whole p;
        final Whole q;

        Fraction(int room) {
            p = new Whole(room);
            q = new Whole(room);
            q.become(1);
        }

        void become(int upper, int lower) {
            p.become(upper);
            q.become(lower);
        }

        void copy(Fraction x) {
            p.copy(x.p);
            q.copy(x.q);
        }

        boolean isSame(Fraction x) {
            return p.sign == x.p.sign && p.compareSize(x.p) == 0 && q.compareSize(x.q) == 0;
        }

        boolean isZero() {
            return p.sign == 0;
        }

        boolean isOne() {
            return p.isOne() && q.isOne();
        }
    }

    /** Long division and the greatest common divisor, with rows of its own for what is under way. */
    private static final class Divider {
        /** Far above the steps that numbers of 4,092 bits can need. */
        private static final int MOST_STEPS = 100000;

        private final Whole quotient = new Whole(WORK_DIGITS + 1);
        private final Whole rest = new Whole(WORK_DIGITS + 1);
        private final Whole divisor = new Whole(WORK_DIGITS + 1);
        private Whole high = new Whole(WORK_DIGITS + 1);
        private Whole low = new Whole(WORK_DIGITS + 1);

        /** Takes the greatest common divisor out of p and q, by Euclid's steps. */
        void reduce(Fraction x) {
            begin(x.p, x.q);
            for (int step = 0; step < MOST_STEPS && low.size > 0; step++) {
                if (high.size <= 2) {
                    endSmall();
                } else if (!leap()) {
                    divide(high, low);
                    turn();
                }
            }
            if (!high.isOne()) {
                divide(x.p, high);
                x.p.copySize(quotient);
                divide(x.q, high);
                x.q.copySize(quotient);
            }
        }

        /** The greater size comes into high. */
        private void begin(Whole x, Whole y) {
            boolean turned = x.compareSize(y) < 0;
            high.copy(turned ? y : x);
            low.copy(turned ? x : y);
            high.sign = Math.abs(high.sign);
            low.sign = Math.abs(low.sign);
        }

        private void endSmall() {
            high.become(findSmallCommon(high.asLong(), low.asLong()));
            low.become(0);
        }

        private void turn() {
            high.copy(rest);
            Whole other = high;
            high = low;
            low = other;
        }

        /**
         * Lehmer's leap: as many of Euclid's steps as the highest bits of both settle, at once; for
         * a division of long numbers at each step is dear. Answers whether there was one at least.
         */
        private boolean leap() {
            int shift = Integer.numberOfLeadingZeros(high.digitAt(high.size - 1)) - 1;
            long x = highestBits(high, shift);
            long y = highestBits(low, shift);
            long a = 1;
            long b = 0;
            long c = 0;
            long d = 1;
            for (int step = 0; step < MOST_STEPS && y + c != 0 && y + d != 0; step++) {
                long times = (x + a) / (y + c);
                if (times != (x + b) / (y + d)) {
                    break;
                }
                long next = a - times * c;
                a = c;
                c = next;
                next = b - times * d;
                b = d;
                d = next;
                next = x - times * y;
                x = y;
                y = next;
            }
            if (b == 0) {
                return false;
            }
            combine(a, b, c, d);
            high.trim();
            low.trim();
            return true;
        }

        /** A digit's worth of bits, for both numbers from where the higher one begins. */
        private long highestBits(Whole x, int shift) {
            int top = high.size - 1;
            long two = (long) x.digitAt(top) << DIGIT_BITS | x.digitAt(top - 1);
            return two >>> (DIGIT_BITS - shift);
        }

        /** high becomes a high + b low, and low c high + d low, both 0 or more. */
        private void combine(long a, long b, long c, long d) {
            int lowSize = low.size;
            low.size = high.size;
            long highCarry = 0;
            long lowCarry = 0;
            for (int i = 0; i < high.size; i++) {
                long x = high.digits[i];
                long y = i < lowSize ? low.digits[i] : 0;
                highCarry += a * x + b * y;
                lowCarry += c * x + d * y;
                high.digits[i] = (int) highCarry & DIGIT_MASK;
                low.digits[i] = (int) lowCarry & DIGIT_MASK;
                highCarry >>= DIGIT_BITS;
                lowCarry >>= DIGIT_BITS;
            }
        }

        /** The quotient and the rest of the sizes; y is not 0. */
        private void divide(Whole x, Whole y) {
            if (y.size < 2) {
                quotient.copy(x);
                rest.become(quotient.divideSmall(y.digitAt(0)));
                return;
            }
            int shift = Integer.numberOfLeadingZeros(y.digitAt(y.size - 1)) - 1;
            divisor.becomeRaised(y, shift);
            divisor.trim();
            rest.becomeRaised(x, shift);
            quotient.sign = 1;
            quotient.size = Math.max(0, x.size - y.size + 1);
            for (int k = quotient.size - 1; k >= 0; k--) {
                int times = guessDigit(k);
                if (!takeAway(k, times)) {
                    giveBack(k);
                    times--;
                }
                quotient.digits[k] = times;
            }
            quotient.trim();
            rest.lower(shift);
            rest.trim();
        }

        /** Knuth's guess from the highest digits: right, or one too much. */
        private int guessDigit(int k) {
            int n = divisor.size;
            if (n < 2 || k + n >= rest.size || divisor.digits[n - 1] == 0) {
                return 0;
            }
            long top = divisor.digits[n - 1];
            long second = divisor.digits[n - 2];
            long two = (long) rest.digits[k + n] << DIGIT_BITS | rest.digits[k + n - 1];
            long third = rest.digits[k + n - 2];
            long guess = Math.min(two / top, DIGIT_MASK);
            long left = two - guess * top;
            // Knuth shows that two turns are enough.
            for (int turn = 0; turn < 2; turn++) {
                if (left <= DIGIT_MASK && guess * second > (left << DIGIT_BITS | third)) {
                    guess--;
                    left += top;
                }
            }
            return (int) guess;
        }

        /** Takes the divisor that often from the rest, k digits up; answers whether it was there. */
        private boolean takeAway(int k, long times) {
            long carry = 0;
            int n = divisor.size;
            for (int i = 0; i < n && i + k < rest.size; i++) {
                carry += rest.digits[i + k] - times * divisor.digits[i];
                rest.digits[i + k] = (int) carry & DIGIT_MASK;
                carry >>= DIGIT_BITS;
            }
            if (n + k < rest.size) {
                carry += rest.digits[n + k];
                rest.digits[n + k] = 0;
            }
            return carry >= 0;
        }

        private void giveBack(int k) {
            long carry = 0;
            for (int i = 0; i < divisor.size && i + k < rest.size; i++) {
                carry += (long) rest.digits[i + k] + divisor.digits[i];
                rest.digits[i + k] = (int) carry & DIGIT_MASK;
                carry >>= DIGIT_BITS;
            }
        }
    }

    /**
     * Reckons with fractions; what comes out stands in answer. A sum or product may still have a
     * common divisor: whoever asks for it lets the divider reduce it.
     */
    private static final class Reckoner {
        final Fraction answer = new Fraction(WORK_DIGITS);
        private final Whole left = new Whole(WORK_DIGITS);
        private final Whole right = new Whole(WORK_DIGITS);

        void add(Fraction x, Fraction y, int sign) {
            answer.p.becomeProduct(x.p, y.q);
            right.becomeProduct(y.p, x.q);
            right.sign *= sign;
            answer.p.add(right);
            answer.q.becomeProduct(x.q, y.q);
        }

        void multiply(Fraction x, Fraction y) {
            answer.p.becomeProduct(x.p, y.p);
            answer.q.becomeProduct(x.q, y.q);
        }

        /** A power has no common divisor where x has none. */
        void raise(Fraction x, int exponent) {
            answer.p.becomePower(x.p, exponent, left);
            answer.q.becomePower(x.q, exponent, left);
        }

        int order(Fraction x, Fraction y) {
            if (x.p.sign != y.p.sign) {
                return x.p.sign < y.p.sign ? -1 : 1;
            }
            left.becomeProduct(x.p, y.q);
            right.becomeProduct(y.p, x.q);
            return left.compareSize(right) * x.p.sign;
        }
    }

    private static final class Part {
        int sort;
        int first;
        int second;
        int degree;
        int upperSize;
        int lowerSize;
        final Fraction fraction = new Fraction(PART_DIGITS);
    }

    /**
     * The parts that are there. What makes a part answers its number, or LARGE or FULL; an operand
     * that could not be made is answered as it is, the first of them first.
     */
    private static final class Shelf {
        final Part[] row = new Part[PARTS];
        int count;
        final boolean[] marked = new boolean[PARTS];
        private final int[] derivatives = new int[PARTS];
        private final Reckoner reckoner = new Reckoner();
        private final Divider divider = new Divider();

        Shelf() {
            for (int i = 0; i < PARTS; i++) {
                row[i] = new Part();
            }
        }

        /** q is above 0. */
        int makeNumber(int p, int q) {
            int common = (int) findSmallCommon(q, Math.abs(p));
            if (common > 0) {
                reckoner.answer.become(p / common, q / common);
            }
            return putNumber();
        }

        int makeVariable(int variable) {
            return put(VARIABLE, variable, -1, 1, 1, 0);
        }

        int makeSum(int x, int y) {
            if (x < 0 || y < 0) {
                return x < 0 ? x : y;
            }
            Part a = row[x];
            Part b = row[y];
            if (a.sort == NUMBER && b.sort == NUMBER) {
                reckoner.add(a.fraction, b.fraction, 1);
                divider.reduce(reckoner.answer);
                return putNumber();
            }
            if (isZero(a)) {
                return y;
            }
            if (isZero(b)) {
                return x;
            }
            int upper = Math.max(a.upperSize + b.lowerSize, b.upperSize + a.lowerSize);
            return put(SUM, x, y, Math.max(a.degree, b.degree), 1 + upper, a.lowerSize + b.lowerSize);
        }

        int makeProduct(int x, int y) {
            if (x < 0 || y < 0) {
                return x < 0 ? x : y;
            }
            Part a = row[x];
            Part b = row[y];
            if (a.sort == NUMBER && b.sort == NUMBER) {
                reckoner.multiply(a.fraction, b.fraction);
                divider.reduce(reckoner.answer);
                return putNumber();
            }
            if (isZero(a) || isOne(b)) {
                return x;
            }
            if (isZero(b) || isOne(a)) {
                return y;
            }
            return put(PRODUCT, x, y, a.degree + b.degree, a.upperSize + b.upperSize + 8,
                    a.lowerSize + b.lowerSize);
        }

        int makePower(int x, int exponent) {
            if (x < 0 || exponent == 1) {
                return x;
            }
            Part a = row[x];
            // No factor at all gives the number 1, whatever x is.
            if (a.sort == NUMBER || exponent == 0) {
                reckoner.raise(a.fraction, exponent);
                return putNumber();
            }
            return put(POWER, x, exponent, a.degree * exponent, exponent * (a.upperSize + 8),
                    exponent * a.lowerSize);
        }

        int makeDerivative(int root, int variable) {
            mark(root);
            for (int i = 0; i <= root; i++) {
                if (marked[i]) {
                    derivatives[i] = makeDerivativeOf(row[i], variable);
                    if (derivatives[i] < 0) {
                        return derivatives[i];
                    }
                }
            }
            return derivatives[root];
        }

        /** Those of the operands are there already. */
        private int makeDerivativeOf(Part part, int variable) {
            int x = part.first;
            int y = part.second;
            switch (part.sort) {
                case VARIABLE:
                    return makeNumber(x == variable ? 1 : 0, 1);
                case SUM:
                    return makeSum(derivatives[x], derivatives[y]);
                case PRODUCT:
                    return makeSum(makeProduct(derivatives[x], y), makeProduct(x, derivatives[y]));
                case POWER:
                    return makeProduct(makeProduct(makeNumber(y, 1), makePower(x, y - 1)),
                            derivatives[x]);
                default:
                    return makeNumber(0, 1);
            }
        }

        /** Marks all parts that an expression has; answers how many. Operands have lesser numbers. */
        int mark(int root) {
            for (int i = 0; i <= root; i++) {
                marked[i] = i == root;
            }
            int found = 0;
            for (int i = root; i >= 0; i--) {
                if (marked[i]) {
                    found++;
                    markOperands(row[i]);
                }
            }
            return found;
        }

        private void markOperands(Part part) {
            if (part.sort == SUM || part.sort == PRODUCT || part.sort == POWER) {
                marked[part.first] = true;
            }
            if (part.sort == SUM || part.sort == PRODUCT) {
                marked[part.second] = true;
            }
        }

        private static boolean isZero(Part part) {
            return part.sort == NUMBER && part.fraction.isZero();
        }

        private static boolean isOne(Part part) {
            return part.sort == NUMBER && part.fraction.isOne();
        }

        /** The fraction is what the reckoner has answered last. */
        private int putNumber() {
            Fraction fraction = reckoner.answer;
            for (int i = 0; i < count; i++) {
                if (row[i].sort == NUMBER && row[i].fraction.isSame(fraction)) {
                    return i;
                }
            }
            int upper = fraction.isZero() ? 1 : fraction.p.countBits();
            int lower = fraction.q.isOne() ? 0 : fraction.q.countBits();
            int i = putNew(NUMBER, 0, upper, lower);
            if (i >= 0) {
                row[i].fraction.copy(fraction);
            }
            return i;
        }

        private int put(int sort, int first, int second, int degree, int upper, int lower) {
            for (int i = 0; i < count; i++) {
                Part part = row[i];
                if (part.sort == sort && part.first == first && part.second == second) {
                    return i;
                }
            }
            int i = putNew(sort, degree, upper, lower);
            if (i >= 0) {
                row[i].first = first;
                row[i].second = second;
            }
            return i;
        }

        private int putNew(int sort, int degree, int upper, int lower) {
            if (degree > MOST_DEGREE || upper > MOST_SIZE || lower > MOST_SIZE) {
                return LARGE;
            }
            if (count >= PARTS) {
                return FULL;
            }
            Part part = row[count];
            part.sort = sort;
            part.first = -1;
            part.second = -1;
            part.degree = degree;
            part.upperSize = upper;
            part.lowerSize = lower;
            count++;
            return count - 1;
        }
    }

    /** Says where a text leaves the grammar: what may come next follows from a state and a depth. */
    private static final class Grammar {
        private static final int FACTOR_DUE = 0, IN_UPPER = 1, IN_LOWER = 2, EXPONENT_DUE = 3,
                ATOM_ENDED = 4, POWER_ENDED = 5;

        private int state;
        private int depth;
        private int digits;
        private boolean allZero;

        /** The first place of a character that can't be there, size if more must come, or -1. */
        int findFault(char[] text, int size) {
            state = FACTOR_DUE;
            depth = 0;
            for (int i = 0; i < size; i++) {
                if (!takes(text[i])) {
                    return i;
                }
            }
            return depth == 0 && isWhole() ? -1 : size;
        }

        private boolean isWhole() {
            return state == IN_UPPER || state == IN_LOWER && !allZero || state == ATOM_ENDED
                    || state == POWER_ENDED;
        }

        private boolean takes(char c) {
            switch (state) {
                case FACTOR_DUE:
                    return takesFactor(c);
                case IN_UPPER:
                    return takesUpper(c);
                case IN_LOWER:
                    return takesLower(c);
                case EXPONENT_DUE:
                    state = POWER_ENDED;
                    return isDigit(c);
                default:
                    return takesOperator(c);
            }
        }

        private boolean takesFactor(char c) {
            if (c == '(') {
                depth++;
                return true;
            }
            if (isDigit(c)) {
                state = IN_UPPER;
                digits = 1;
                return true;
            }
            if (isVariable(c) || isName(c)) {
                state = ATOM_ENDED;
                return true;
            }
            return c == '-';
        }

        private boolean takesUpper(char c) {
            if (isDigit(c)) {
                digits++;
                return digits <= 4;
            }
            if (c == '/') {
                state = IN_LOWER;
                digits = 0;
                allZero = true;
                return true;
            }
            return takesOperator(c);
        }

        private boolean takesLower(char c) {
            if (isDigit(c)) {
                digits++;
                allZero = allZero && c == '0';
                return digits < 4 || digits == 4 && !allZero;
            }
            return !allZero && takesOperator(c);
        }

        private boolean takesOperator(char c) {
            if (c == '^') {
                boolean first = state != POWER_ENDED;
                state = EXPONENT_DUE;
                return first;
            }
            if (c == ')') {
                depth--;
                state = ATOM_ENDED;
                return depth >= 0;
            }
            state = FACTOR_DUE;
            return c == '+' || c == '-' || c == '*';
        }
    }

    /** Makes the parts of a text that is in the grammar and has no unknown name. */
    private static final class Maker {
        /** A - of a factor, to tell it from the - between two terms. */
        private static final char NEGATIVE = '~';

        private final int[] operands = new int[TEXT_ROOM];
        private final char[] operators = new char[TEXT_ROOM];
        private int operandCount;
        private int operatorCount;
        private boolean factorDue;
        private int failure;

        int makeText(Shelf shelf, char[] text, int size, int[] names) {
            operandCount = 0;
            operatorCount = 0;
            factorDue = true;
            failure = 0;
            for (int i = 0; i < size && failure == 0; i++) {
                char c = text[i];
                if (isDigit(c)) {
                    i = Math.max(i, takeNumber(shelf, text, i, size));
                } else if (c == '^') {
                    i++;
                    pushOperand(shelf.makePower(popOperand(), i < size ? text[i] - '0' : 0));
                } else if (isVariable(c)) {
                    pushOperand(shelf.makeVariable(c - 'a'));
                } else if (isName(c)) {
                    pushOperand(names[c - 'A']);
                } else if (c == '(' || factorDue) {
                    pushOperator(c == '-' ? NEGATIVE : c);
                } else {
                    applyAll(shelf, rank(c));
                    takeOperator(c);
                }
            }
            applyAll(shelf, rank(')'));
            return failure < 0 ? failure : popOperand();
        }

        /** Answers the place of the number's last character. */
        private int takeNumber(Shelf shelf, char[] text, int start, int size) {
            int upper = 0;
            int lower = 0;
            boolean below = false;
            int i = start;
            while (i < size && (isDigit(text[i]) || text[i] == '/')) {
                if (text[i] == '/') {
                    below = true;
                } else if (below) {
                    lower = lower * 10 + text[i] - '0';
                } else {
                    upper = upper * 10 + text[i] - '0';
                }
                i++;
            }
            pushOperand(shelf.makeNumber(upper, below ? lower : 1));
            return i - 1;
        }

        private void takeOperator(char c) {
            if (c == ')') {
                operatorCount = Math.max(0, operatorCount - 1);
            } else {
                pushOperator(c);
            }
        }

        /** Applies what waits behind the last open bracket and binds at least as much. */
        private void applyAll(Shelf shelf, int least) {
            while (operatorCount > 0 && failure == 0 && rank(operators[operatorCount - 1]) >= least) {
                operatorCount--;
                char operator = operators[operatorCount];
                int y = popOperand();
                if (operator == '-' || operator == NEGATIVE) {
                    y = shelf.makeProduct(shelf.makeNumber(-1, 1), y);
                }
                if (operator == '*') {
                    y = shelf.makeProduct(popOperand(), y);
                } else if (operator != NEGATIVE) {
                    y = shelf.makeSum(popOperand(), y);
                }
                pushOperand(y);
            }
        }

        private static int rank(char operator) {
            if (operator == NEGATIVE) {
                return 3;
            }
            if (operator == '*') {
                return 2;
            }
            return operator == '(' ? 0 : 1;
        }

        private void pushOperand(int part) {
            factorDue = false;
            if (part < 0) {
                failure = part;
            } else if (operandCount < TEXT_ROOM) {
                operands[operandCount] = part;
                operandCount++;
            }
        }

        private int popOperand() {
            if (operandCount == 0) {
                return SYNTAX;
            }
            operandCount--;
            return operands[operandCount];
        }

        private void pushOperator(char operator) {
            factorDue = true;
            if (operatorCount < TEXT_ROOM) {
                operators[operatorCount] = operator;
                operatorCount++;
            }
        }
    }

    /**
     * Works out values and slopes at the point. Each part has a value and a slope over one common
     * q: its scale (from the numbers' q), times the q of each variable as often as its powers say.
     * So only what is asked for is ever divided by a common divisor; DEGREE and SIZES keep it short.
     */
    private static final class Slopes {
        private final int[] pointUpper = new int[VARIABLES];
        private final int[] pointLower = new int[VARIABLES];
        private final int[] direction = new int[VARIABLES];
        private final Whole[] values = new Whole[PARTS];
        private final Whole[] slopes = new Whole[PARTS];
        private final Whole[] scales = new Whole[PARTS];
        private final int[][] powers = new int[PARTS][VARIABLES];
        private final Whole factor = new Whole(SLOPE_DIGITS);
        private final Whole work = new Whole(SLOPE_DIGITS);

        Slopes() {
            Arrays.fill(pointLower, 1);
            for (int i = 0; i < PARTS; i++) {
                values[i] = new Whole(SLOPE_DIGITS);
                slopes[i] = new Whole(SLOPE_DIGITS);
                scales[i] = new Whole(PART_DIGITS);
            }
        }

        /** q is above 0. */
        void movePoint(int variable, int p, int q) {
            int common = (int) findSmallCommon(q, Math.abs(p));
            if (common > 0) {
                pointUpper[variable] = p / common;
                pointLower[variable] = q / common;
            }
        }

        /** Works out an expression and its slope along a direction. */
        void workOut(Shelf shelf, int root, int x, int y, int z) {
            direction[0] = x;
            direction[1] = y;
            direction[2] = z;
            shelf.mark(root);
            for (int i = 0; i <= root; i++) {
                if (shelf.marked[i]) {
                    workPart(i, shelf.row[i]);
                }
            }
        }

        void giveValue(int root, Divider divider, Fraction target) {
            give(root, values[root], target);
            divider.reduce(target);
        }

        void giveSlope(int root, Divider divider, Fraction target) {
            give(root, slopes[root], target);
            divider.reduce(target);
        }

        private void give(int root, Whole upper, Fraction target) {
            factor.copy(scales[root]);
            for (int v = 0; v < VARIABLES; v++) {
                multiplyFactor(v, powers[root][v]);
            }
            target.p.copy(upper);
            target.q.copy(factor);
        }

        private void workPart(int i, Part part) {
            switch (part.sort) {
                case NUMBER:
                    workNumber(i, part.fraction);
                    break;
                case VARIABLE:
                    workVariable(i, part.first);
                    break;
                case SUM:
                    workSum(i, part.first, part.second);
                    break;
                case PRODUCT:
                    workProduct(i, part.first, part.second);
                    break;
                default:
                    workPower(i, part.first, part.second);
            }
        }

        private void workNumber(int i, Fraction fraction) {
            Arrays.fill(powers[i], 0);
            scales[i].copy(fraction.q);
            values[i].copy(fraction.p);
            slopes[i].become(0);
        }

        private void workVariable(int i, int v) {
            Arrays.fill(powers[i], 0);
            powers[i][v] = 1;
            scales[i].become(1);
            values[i].become(pointUpper[v]);
            slopes[i].become((long) direction[v] * pointLower[v]);
        }

        private void workSum(int i, int x, int y) {
            for (int v = 0; v < VARIABLES; v++) {
                powers[i][v] = Math.max(powers[x][v], powers[y][v]);
            }
            scales[i].becomeProduct(scales[x], scales[y]);
            findFactor(i, x, scales[y]);
            values[i].becomeProduct(values[x], factor);
            slopes[i].becomeProduct(slopes[x], factor);
            findFactor(i, y, scales[x]);
            work.becomeProduct(values[y], factor);
            values[i].add(work);
            work.becomeProduct(slopes[y], factor);
            slopes[i].add(work);
        }

        /** What brings an operand of a sum to the sum's q. */
        private void findFactor(int i, int operand, Whole otherScale) {
            factor.copy(otherScale);
            for (int v = 0; v < VARIABLES; v++) {
                multiplyFactor(v, powers[i][v] - powers[operand][v]);
            }
        }

        private void multiplyFactor(int v, int times) {
            int q = pointLower[v];
            if (q == 1) {
                return;
            }
            // Two at a time fit in a digit too.
            for (int k = times; k > 0; k -= 2) {
                factor.multiplySmall(k == 1 ? q : q * q);
            }
        }

        private void workProduct(int i, int x, int y) {
            for (int v = 0; v < VARIABLES; v++) {
                powers[i][v] = powers[x][v] + powers[y][v];
            }
            scales[i].becomeProduct(scales[x], scales[y]);
            values[i].becomeProduct(values[x], values[y]);
            slopes[i].becomeProduct(slopes[x], values[y]);
            work.becomeProduct(values[x], slopes[y]);
            slopes[i].add(work);
        }

        private void workPower(int i, int x, int exponent) {
            for (int v = 0; v < VARIABLES; v++) {
                powers[i][v] = powers[x][v] * exponent;
            }
            scales[i].becomePower(scales[x], exponent, work);
            work.becomePower(values[x], exponent - 1, factor);
            values[i].becomeProduct(work, values[x]);
            slopes[i].becomeProduct(work, slopes[x]);
            slopes[i].multiplySmall(exponent);
        }
    }

    /** Writes expressions; what is too long leaves what was written before. */
    private static final class Scribe {
        final char[] kept = new char[WRITTEN_ROOM];
        int keptSize;
        private final char[] draft = new char[WRITTEN_ROOM];
        private int draftSize;
        private boolean tooLong;
        /** What is still to be written, the last first: parts, and characters as numbers below 0. */
        private final int[] waiting = new int[WRITTEN_ROOM];
        private int waitingCount;
        private final char[] decimals = new char[WRITTEN_ROOM];
        private final Whole work = new Whole(PART_DIGITS);

        int writePart(Shelf shelf, int root) {
            draftSize = 0;
            waitingCount = 0;
            tooLong = false;
            later(root);
            // Each turn writes a character or opens a power, and each part opened will still write one.
            for (int turn = 0; turn < 4 * WRITTEN_ROOM && waitingCount > 0 && !tooLong; turn++) {
                waitingCount--;
                writeNext(shelf, waiting[waitingCount]);
            }
            if (tooLong) {
                return LARGE;
            }
            System.arraycopy(draft, 0, kept, 0, draftSize);
            keptSize = draftSize;
            return keptSize;
        }

        private void writeNext(Shelf shelf, int next) {
            if (next < 0) {
                writeCharacter((char) -next);
                return;
            }
            Part part = shelf.row[next];
            switch (part.sort) {
                case NUMBER:
                    writeFraction(part.fraction);
                    break;
                case VARIABLE:
                    writeCharacter((char) ('a' + part.first));
                    break;
                case POWER:
                    later(-'0' - part.second);
                    later(-'^');
                    later(part.first);
                    break;
                default:
                    writeCharacter('(');
                    later(-')');
                    later(part.second);
                    later(part.sort == SUM ? -'+' : -'*');
                    later(part.first);
            }
        }

        /** All that waits takes a character at least, so there is never need for more room. */
        private void later(int next) {
            if (waitingCount + draftSize >= WRITTEN_ROOM) {
                tooLong = true;
                return;
            }
            waiting[waitingCount] = next;
            waitingCount++;
        }

        private void writeCharacter(char c) {
            if (draftSize >= WRITTEN_ROOM) {
                tooLong = true;
                return;
            }
            draft[draftSize] = c;
            draftSize++;
        }

        private void writeFraction(Fraction fraction) {
            if (fraction.p.sign < 0) {
                writeCharacter('-');
            }
            writeWhole(fraction.p);
            if (!fraction.q.isOne()) {
                writeCharacter('/');
                writeWhole(fraction.q);
            }
        }

        private void writeWhole(Whole x) {
            work.copy(x);
            int n = 0;
            do {
                decimals[n] = (char) ('0' + work.divideSmall(10));
                n++;
            } while (work.size > 0 && n < WRITTEN_ROOM);
            for (int k = n - 1; k >= 0; k--) {
                writeCharacter(decimals[k]);
            }
        }
    }
}
