/** Promises 19 and 20: write and written. */
public final class WriteTest {
    public static void main(String[] args) {
        writes();
        lengths();
        longNumbers();
        powers();
        atTheLimit();
        noExpressionWrittenYet();
        whatStays();
        refuses();
        Check.end();
    }

    private static void writes(String text, String due) {
        GradientDesk desk = new GradientDesk();
        Check.define(desk, text, 2);
        Check.due("write of " + text, desk.write(2), due.length());
        Check.due("written of " + text, Check.lastWritten(desk), due);
    }

    private static void writes() {
        writes("a", "a");
        writes("b", "b");
        writes("c", "c");
        writes("0", "0");
        writes("0010", "10");
        writes("9999", "9999");
        writes("-7", "-7");
        writes("6/4", "3/2");
        writes("-6/4", "-3/2");
        writes("a+b", "(a+b)");
        writes("a-b", "(a+(-1*b))");
        writes("-a", "(-1*a)");
        writes("a*b*c", "((a*b)*c)");
        writes("a*(b*c)", "(a*(b*c))");
        writes("a^2", "a^2");
        writes("(a+b)^3", "(a+b)^3");
        writes("(a*b)^3", "(a*b)^3");
        writes("-a^2*1/2", "((-1*a^2)*1/2)");
        writes("(a^2)^3", "a^2^3");
        writes("((a^2)^2)^2+c", "(a^2^2^2+c)");
        writes("2^9*a", "(512*a)");
    }

    /** The desk's A becomes a sum that takes n characters, n being 1 and more by four. */
    private static GradientDesk sumOf(int n) {
        GradientDesk desk = new GradientDesk();
        Check.define(desk, "a", 0);
        for (int k = 1; k < n; k += 4) {
            Check.define(desk, "A+b", 0);
        }
        return desk;
    }

    private static void lengths() {
        GradientDesk desk = sumOf(249);
        Check.due("249", desk.write(0), 249);
        Check.due("249", Check.lastWritten(desk), "(".repeat(62) + "a" + "+b)".repeat(62));
        Check.define(desk, "A+b", 1);
        Check.due("253", desk.write(1), GradientDesk.LARGE);
        Check.due("what was written last stays", Check.lastWritten(desk).length(), 249);
        Check.dueThrow("character 249", () -> desk.written(249), Check.OUT_OF_BOUNDS);
        desk.derive(0, 0, 2);
        Check.due("the derivative", Check.written(desk, 2), "1");
        Check.due("253", desk.write(1), GradientDesk.LARGE);
        Check.due("what was written last stays", Check.lastWritten(desk), "1");
        GradientDesk other = sumOf(245);
        Check.define(other, "12+A", 1);
        Check.due("250", other.write(1), 250);
        Check.due("the last one", other.written(249), ')');
        Check.dueThrow("character 250", () -> other.written(250), Check.OUT_OF_BOUNDS);
        Check.define(other, "123+A", 1);
        Check.due("251", other.write(1), GradientDesk.LARGE);
        Check.define(other, "A+12", 1);
        Check.due("250", other.write(1), 250);
        Check.define(other, "A+123", 1);
        Check.due("251", other.write(1), GradientDesk.LARGE);
        Check.define(other, "A^2+b", 1);
        Check.due("251 with a power", other.write(1), GradientDesk.LARGE);
        Check.define(other, "A^2", 1);
        Check.due("247 with a power", other.write(1), 247);
        GradientDesk deep = sumOf(197 * 4);
        Check.due("deep", deep.write(0), GradientDesk.LARGE);
        Check.dueThrow("nothing was written", () -> deep.written(0), Check.OUT_OF_BOUNDS);
    }

    private static void longNumbers() {
        GradientDesk desk = new GradientDesk();
        String p = java.math.BigInteger.valueOf(9999).pow(29).toString();
        String q = java.math.BigInteger.valueOf(9998).pow(29).toString();
        Check.define(desk, "-(9999/9998)^9", 0);
        Check.define(desk, "A*A*A*(9999/9998)^2", 0);
        Check.due("long number", Check.written(desk, 0), "-" + p + "/" + q);
        Check.define(desk, "A*a", 1);
        Check.due("long number", Check.written(desk, 1), "(-" + p + "/" + q + "*a)");
        Check.define(desk, "A*a+a*b+c*b", 1);
        Check.due("long number", desk.write(1), GradientDesk.LARGE);
    }

    /** A power writes two characters and no bracket. */
    private static void powers() {
        GradientDesk desk = new GradientDesk();
        Check.define(desk, "a^2", 0);
        for (int k = 0; k < 5; k++) {
            Check.define(desk, "A+A", 0);
        }
        Check.due("32 powers", desk.write(0), 32 * 3 + 31 * 3);
        Check.define(desk, "A+A", 0);
        Check.due("64 powers", desk.write(0), GradientDesk.LARGE);
    }

    /** The last part that is written ends at character 250, or at 251. */
    private static void atTheLimit() {
        atTheLimit(241, "1234+A", "B^2", 250);
        atTheLimit(245, "7+A", "B^2", GradientDesk.LARGE);
        atTheLimit(245, "A+12", "B", 250);
        atTheLimit(245, "A+123", "B", GradientDesk.LARGE);
        atTheLimit(245, "12*A", "B", 250);
        atTheLimit(245, "123*A", "B", GradientDesk.LARGE);
        atTheLimit(241, "A+(0-1/21)", "B", 249);
        atTheLimit(241, "A+(0-1/321)", "B", 250);
        atTheLimit(241, "A+(0-1/4321)", "B", GradientDesk.LARGE);
        atTheLimit(241, "(0-1/321)+A", "B", 250);
        atTheLimit(241, "(0-1/4321)+A", "B", GradientDesk.LARGE);
        atTheLimit(241, "1+A", "c+B", 249);
        atTheLimit(241, "12+A", "c+B", 250);
        atTheLimit(241, "123+A", "c+B", GradientDesk.LARGE);
        atTheLimit(241, "12+A", "B*c", 250);
        atTheLimit(241, "123+A", "B*c", GradientDesk.LARGE);
    }

    private static void atTheLimit(int n, String b, String c, int due) {
        GradientDesk desk = sumOf(n);
        Check.define(desk, "a*b", 3);
        desk.write(3);
        Check.define(desk, b, 1);
        Check.define(desk, c, 2);
        Check.due("write of " + c + " with " + b + " and " + n, desk.write(2), due);
        Check.due("characters", Check.lastWritten(desk).length(), due < 0 ? 5 : due);
        if (due > 0) {
            Check.dueThrow("none behind the last", () -> desk.written(due), Check.OUT_OF_BOUNDS);
        } else {
            Check.due("what was written last", Check.lastWritten(desk), "(a*b)");
        }
    }

    private static void noExpressionWrittenYet() {
        GradientDesk desk = sumOf(253);
        Check.dueThrow("nothing is written yet", () -> desk.written(0), Check.OUT_OF_BOUNDS);
        Check.due("too long", desk.write(0), GradientDesk.LARGE);
        Check.dueThrow("still nothing", () -> desk.written(0), Check.OUT_OF_BOUNDS);
        Check.define(desk, "c", 0);
        Check.dueThrow("still nothing", () -> desk.written(0), Check.OUT_OF_BOUNDS);
        Check.due("one character", desk.write(0), 1);
        Check.due("character 0", desk.written(0), 'c');
        Check.dueThrow("character 1", () -> desk.written(1), Check.OUT_OF_BOUNDS);
    }

    private static void whatStays() {
        GradientDesk desk = new GradientDesk();
        Check.define(desk, "a+b", 0);
        desk.write(0);
        Check.define(desk, "a*c", 0);
        desk.derive(0, 0, 1);
        desk.gradient(0);
        Check.type(desk, "a+");
        Check.due("what was written stays", Check.lastWritten(desk), "(a+b)");
        desk.clear();
        Check.due("what was written stays behind clear()", Check.lastWritten(desk), "(a+b)");
        Check.dueThrow("A is gone", () -> desk.write(0), Check.NO_SUCH_ELEMENT);
        Check.due("what was written stays behind what throws", Check.lastWritten(desk), "(a+b)");
        Check.due("the text has stayed", desk.type('c', 1), 3);
        desk.define(0);
        desk.write(0);
        Check.due("the next one", Check.lastWritten(desk), "(a+c)");
        Check.define(desk, "7", 0);
        desk.write(0);
        Check.due("nothing of the longer one is left", Check.lastWritten(desk), "7");
    }

    private static void refuses() {
        GradientDesk desk = new GradientDesk();
        Check.define(desk, "a+b", 0);
        desk.write(0);
        int[] wrongNames = {-1, 8, Integer.MIN_VALUE, Integer.MAX_VALUE};
        for (int name : wrongNames) {
            Check.dueThrow("write(" + name + ")", () -> desk.write(name), Check.ILLEGAL_ARGUMENT);
        }
        for (int k = 1; k < 8; k++) {
            int name = k;
            Check.dueThrow("write of none", () -> desk.write(name), Check.NO_SUCH_ELEMENT);
        }
        int[] wrongPlaces = {-1, 5, 250, Integer.MIN_VALUE, Integer.MAX_VALUE};
        for (int i : wrongPlaces) {
            Check.dueThrow("written(" + i + ")", () -> desk.written(i), Check.OUT_OF_BOUNDS);
        }
        Check.due("what was written", Check.lastWritten(desk), "(a+b)");
    }
}
