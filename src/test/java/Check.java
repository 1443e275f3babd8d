import java.util.function.LongSupplier;

/** Counts and prints the calls whose answer is not the one that is due. */
final class Check {
    static final String ILLEGAL_ARGUMENT = "IllegalArgumentException";
    static final String ILLEGAL_STATE = "IllegalStateException";
    static final String OUT_OF_BOUNDS = "IndexOutOfBoundsException";
    static final String NO_SUCH_ELEMENT = "NoSuchElementException";

    private static int wrong = 0;
    private static int done = 0;

    private Check() {
    }

    static void due(String what, long got, long want) {
        due(what, Long.toString(got), Long.toString(want));
    }

    static void due(String what, String got, String want) {
        done++;
        if (!got.equals(want)) {
            wrong++;
            if (wrong <= 50) {
                System.out.println(what + " answered " + got + ", due is " + want);
            }
        }
    }

    static void dueThrow(String what, LongSupplier call, String want) {
        due(what, answer(call), want);
    }

    /** What a call answers, or the plain name of what it throws. */
    static String answer(LongSupplier call) {
        try {
            return Long.toString(call.getAsLong());
        } catch (RuntimeException e) {
            return e.getClass().getSimpleName();
        }
    }

    static long none(Runnable call) {
        call.run();
        return 0;
    }

    /** Types a text of any length that there is room for. */
    static void type(GradientDesk desk, String text) {
        for (int start = 0; start < text.length(); start += 8) {
            int n = Math.min(8, text.length() - start);
            desk.type(packed(text, start, n), n);
        }
    }

    static long packed(String text, int start, int n) {
        long w = 0;
        for (int k = n - 1; k >= 0; k--) {
            w = w << 8 | text.charAt(start + k);
        }
        return w;
    }

    static int define(GradientDesk desk, String text, int name) {
        type(desk, text);
        return desk.define(name);
    }

    /** The text of base^n, for n up to 809. */
    static String power(String base, int n) {
        return "((" + base + "^9)^9)^" + n / 81 + "*(" + base + "^9)^" + n % 81 / 9 + "*" + base + "^" + n % 9;
    }

    /** H becomes longer by one part at a time, until there are so many. */
    static void fill(GradientDesk desk, int count) {
        define(desk, "a+b", 7);
        for (int k = 0; k < 200 && desk.made() < count; k++) {
            define(desk, "H+b", 7);
        }
        due("parts that were made to fill", desk.made(), count);
    }

    static String written(GradientDesk desk, int name) {
        int n = desk.write(name);
        if (n < 0) {
            return Integer.toString(n);
        }
        return lastWritten(desk);
    }

    static String lastWritten(GradientDesk desk) {
        StringBuilder out = new StringBuilder();
        for (int i = 0; i < 1000; i++) {
            try {
                out.append((char) desk.written(i));
            } catch (IndexOutOfBoundsException e) {
                break;
            }
        }
        return out.toString();
    }

    /** All parts in their order, from part() and number() alone; uses result 7. */
    static String shelf(GradientDesk desk) {
        StringBuilder out = new StringBuilder();
        for (int i = 0; i < desk.made(); i++) {
            out.append(i == 0 ? "" : " ").append(shelfPart(desk, i));
        }
        return out.toString();
    }

    private static String shelfPart(GradientDesk desk, int i) {
        int first = desk.part(i, 1);
        int second = desk.part(i, 2);
        switch (desk.part(i, 0)) {
            case 0:
                desk.number(i, 7);
                return result(desk, 7).replaceAll("/1$", "");
            case 1:
                return "abc".substring(first, first + 1);
            case 2:
                return "[" + first + "+" + second + "]";
            case 3:
                return "[" + first + "*" + second + "]";
            default:
                return "[" + first + "^" + second + "]";
        }
    }

    /** A result as a text p/q. */
    static String result(GradientDesk desk, int r) {
        String minus = desk.sign(r) < 0 ? "-" : "";
        return minus + size(desk, r, 0) + "/" + size(desk, r, 1);
    }

    static java.math.BigInteger size(GradientDesk desk, int r, int which) {
        java.math.BigInteger size = java.math.BigInteger.ZERO;
        for (int i = 63; i >= 0; i--) {
            size = size.shiftLeft(32).or(java.math.BigInteger.valueOf(desk.word(r, which, i) & 0xffffffffL));
        }
        return size;
    }

    static void end() {
        System.out.println(done + " answers looked at, " + wrong + " not as due");
        if (wrong != 0) {
            System.exit(1);
        }
    }
}
