import java.util.function.ToLongFunction;

/**
 * Which exception each call throws, of several the one that its promise names first; that what
 * stands just inside the edge throws none; and that a call that throws changes nothing.
 */
public final class ThrowsTest {
    private static final int[] NO_NAMES = {-1, 8, 9, Integer.MIN_VALUE, Integer.MAX_VALUE};
    private static final int[] NO_VARIABLES = {-1, 3, 4, Integer.MIN_VALUE, Integer.MAX_VALUE};
    private static final int[] NO_RESULTS = {-1, 8, 9, Integer.MIN_VALUE, Integer.MAX_VALUE};
    private static final int PARTS = 6;
    private static final int[] NO_PARTS = {-1, PARTS, PARTS + 1, 199, 200, Integer.MIN_VALUE, Integer.MAX_VALUE};
    /** A name that no expression has. */
    private static final int NONE = 5;

    public static void main(String[] args) {
        type();
        define();
        derive();
        names();
        part();
        number();
        set();
        along();
        reckon();
        compareAndSign();
        bits();
        word();
        written();
        everythingOnANewObject();
        Check.end();
    }

    /** Has A, B and H, six parts, results, a text, a place, a point and what was written. */
    private static GradientDesk desk() {
        GradientDesk desk = new GradientDesk();
        desk.set(0, 2, 3);
        desk.set(1, -4, 5);
        desk.set(2, 6, 7);
        Check.define(desk, "a*c+3/4", 0);
        Check.define(desk, "c", 1);
        Check.define(desk, "A^2", 7);
        Check.due("made()", desk.made(), PARTS);
        desk.gradient(7);
        desk.along(0, 9, 8, 7);
        desk.reckon(1, 6, 0, 5);
        desk.write(0);
        Check.define(desk, "a+*", 0);
        Check.type(desk, "c*b-");
        return desk;
    }

    private static void throwing(String what, ToLongFunction<GradientDesk> call, String due) {
        State.stays(what, ThrowsTest::desk, desk -> Check.dueThrow(what, () -> call.applyAsLong(desk), due));
    }

    private static void passing(String what, ToLongFunction<GradientDesk> call) {
        GradientDesk desk = desk();
        String answer = Check.answer(() -> call.applyAsLong(desk));
        Check.due(what + " throws", answer.endsWith("Exception") ? answer : "nothing", "nothing");
    }

    private static void argument(String what, ToLongFunction<GradientDesk> call) {
        throwing(what, call, Check.ILLEGAL_ARGUMENT);
    }

    private static void index(String what, ToLongFunction<GradientDesk> call) {
        throwing(what, call, Check.OUT_OF_BOUNDS);
    }

    private static void element(String what, ToLongFunction<GradientDesk> call) {
        throwing(what, call, Check.NO_SUCH_ELEMENT);
    }

    private static void type() {
        int[] wrong = {0, 9, -1, Integer.MIN_VALUE, Integer.MAX_VALUE};
        for (int n : wrong) {
            argument("type of " + n, desk -> desk.type(0x6161616161616161L, n));
        }
        argument("type of 31", desk -> desk.type(0x1f61, 2));
        argument("type of 127", desk -> desk.type(0x7f61, 2));
        argument("type of 225", desk -> desk.type(0xe161, 2));
        passing("type of 1", desk -> desk.type(0x1f61, 1));
        passing("type of 32", desk -> desk.type(0x2061, 2));
        passing("type of 126", desk -> desk.type(0x7e61, 2));
        passing("type of 8", desk -> desk.type(0x6161616161616161L, 8));
        fullText();
    }

    private static void fullText() {
        State.stays("type without room", ThrowsTest::withFullText, desk -> {
            Check.dueThrow("type without room", () -> desk.type('a', 1), Check.ILLEGAL_STATE);
            Check.dueThrow("type without room", () -> desk.type(0x6161616161616161L, 8), Check.ILLEGAL_STATE);
            Check.dueThrow("type of nothing without room", () -> desk.type('a', 0), Check.ILLEGAL_ARGUMENT);
            Check.dueThrow("type of 9 without room", () -> desk.type('a', 9), Check.ILLEGAL_ARGUMENT);
            Check.dueThrow("type of a wrong one without room", () -> desk.type(0x0761, 2), Check.ILLEGAL_ARGUMENT);
        });
    }

    private static GradientDesk withFullText() {
        GradientDesk desk = desk();
        Check.type(desk, "b" + "+c-a".repeat(14) + "*-a");
        return desk;
    }

    private static void define() {
        for (int name : NO_NAMES) {
            argument("define(" + name + ")", desk -> desk.define(name));
        }
        for (int k = 0; k < 8; k++) {
            int name = k;
            passing("define(" + name + ")", desk -> desk.define(name));
        }
    }

    private static void derive() {
        for (int name : NO_NAMES) {
            argument("derive of " + name, desk -> desk.derive(name, 0, 0));
            argument("derive to " + name, desk -> desk.derive(0, 0, name));
            argument("derive of none to " + name, desk -> desk.derive(NONE, 0, name));
            argument("derive of and to " + name, desk -> desk.derive(name, 0, name));
        }
        for (int v : NO_VARIABLES) {
            argument("derive by " + v, desk -> desk.derive(0, v, 0));
            argument("derive of none by " + v, desk -> desk.derive(NONE, v, 0));
        }
        element("derive of none", desk -> desk.derive(NONE, 0, 0));
        element("derive of none to itself", desk -> desk.derive(NONE, 2, NONE));
        for (int v = 0; v < 3; v++) {
            int variable = v;
            passing("derive by " + v, desk -> desk.derive(7, variable, 0));
            passing("derive by " + v, desk -> desk.derive(0, variable, 7));
        }
    }

    private static void names() {
        for (int name : NO_NAMES) {
            argument("parts(" + name + ")", desk -> desk.parts(name));
            argument("gradient(" + name + ")", desk -> Check.none(() -> desk.gradient(name)));
            argument("along(" + name + ")", desk -> Check.none(() -> desk.along(name, 1, 2, 3)));
            argument("write(" + name + ")", desk -> desk.write(name));
        }
        for (int k = 0; k < 8; k++) {
            int name = k;
            if (k >= 2 && k <= 6) {
                element("parts(" + name + ")", desk -> desk.parts(name));
                element("gradient(" + name + ")", desk -> Check.none(() -> desk.gradient(name)));
                element("along(" + name + ")", desk -> Check.none(() -> desk.along(name, 1, 2, 3)));
                element("write(" + name + ")", desk -> desk.write(name));
                element("derive(" + name + ")", desk -> desk.derive(name, 0, name));
            } else {
                passing("parts(" + name + ")", desk -> desk.parts(name));
                passing("gradient(" + name + ")", desk -> Check.none(() -> desk.gradient(name)));
                passing("along(" + name + ")", desk -> Check.none(() -> desk.along(name, 1, 2, 3)));
                passing("write(" + name + ")", desk -> desk.write(name));
                passing("derive(" + name + ")", desk -> desk.derive(name, 0, name));
            }
        }
    }

    private static void part() {
        int[] wrong = {-1, 6, 7, Integer.MIN_VALUE, Integer.MAX_VALUE};
        for (int i : NO_PARTS) {
            index("part " + i, desk -> desk.part(i, 0));
            index("part " + i + " and a wrong what", desk -> desk.part(i, 6));
        }
        for (int what : wrong) {
            argument("part with what " + what, desk -> desk.part(0, what));
            argument("part with what " + what, desk -> desk.part(PARTS - 1, what));
        }
        for (int k = 0; k < 6; k++) {
            int what = k;
            passing("part with what " + what, desk -> desk.part(0, what));
            passing("part with what " + what, desk -> desk.part(PARTS - 1, what));
        }
    }

    private static long number(GradientDesk desk, int i, int r) {
        return desk.number(i, r) ? 1 : 0;
    }

    private static void number() {
        for (int i : NO_PARTS) {
            index("number of part " + i, desk -> number(desk, i, 0));
        }
        for (int r : NO_RESULTS) {
            index("number to " + r, desk -> number(desk, 0, r));
            index("number of no part to " + r, desk -> number(desk, PARTS, r));
        }
        passing("number", desk -> number(desk, 0, 0));
        passing("number", desk -> number(desk, PARTS - 1, 7));
    }

    private static void wrongPoint(int variable, int p, int q) {
        argument("set(" + variable + ", " + p + ", " + q + ")", desk -> Check.none(() -> desk.set(variable, p, q)));
    }

    private static void set() {
        for (int v : NO_VARIABLES) {
            wrongPoint(v, 1, 1);
        }
        int[] wrongUpper = {-10000, 10000, Integer.MIN_VALUE, Integer.MAX_VALUE};
        for (int p : wrongUpper) {
            wrongPoint(0, p, 1);
            wrongPoint(2, p, 9999);
        }
        int[] wrongLower = {0, -1, -9999, 10000, Integer.MIN_VALUE, Integer.MAX_VALUE};
        for (int q : wrongLower) {
            wrongPoint(0, 0, q);
            wrongPoint(2, 9999, q);
        }
        for (int v = 0; v < 3; v++) {
            int variable = v;
            passing("set", desk -> Check.none(() -> desk.set(variable, -9999, 1)));
            passing("set", desk -> Check.none(() -> desk.set(variable, 9999, 9999)));
            passing("set", desk -> Check.none(() -> desk.set(variable, 0, 9999)));
        }
    }

    private static void wrongStep(int name, int x, int y, int z) {
        argument("along(" + name + ", " + x + ", " + y + ", " + z + ")", desk -> Check.none(() -> desk.along(name, x, y, z)));
    }

    private static void along() {
        int[] wrong = {-1000, 1000, Integer.MIN_VALUE, Integer.MAX_VALUE};
        for (int step : wrong) {
            for (int name = 0; name <= NONE; name += NONE) {
                wrongStep(name, step, 0, 0);
                wrongStep(name, 0, step, 0);
                wrongStep(name, 0, 0, step);
            }
        }
        int[] good = {-999, 999};
        for (int step : good) {
            passing("along", desk -> Check.none(() -> desk.along(0, step, 0, 0)));
            passing("along", desk -> Check.none(() -> desk.along(0, 0, step, 0)));
            passing("along", desk -> Check.none(() -> desk.along(7, 0, 0, step)));
        }
    }

    private static long reckon(GradientDesk desk, int what, int r, int i, int j) {
        return desk.reckon(what, r, i, j) ? 1 : 0;
    }

    private static void reckon() {
        for (int k : NO_RESULTS) {
            for (int what = -1; what <= 3; what++) {
                int w = what;
                index("reckon to " + k, desk -> reckon(desk, w, k, 0, 0));
                index("reckon of " + k, desk -> reckon(desk, w, 0, k, 0));
                index("reckon with " + k, desk -> reckon(desk, w, 7, 7, k));
            }
        }
        int[] wrong = {-1, 3, 4, Integer.MIN_VALUE, Integer.MAX_VALUE};
        for (int what : wrong) {
            argument("reckon with what " + what, desk -> reckon(desk, what, 0, 0, 0));
            argument("reckon with what " + what, desk -> reckon(desk, what, 7, 7, 7));
        }
        for (int k = 0; k < 3; k++) {
            int what = k;
            passing("reckon with what " + what, desk -> reckon(desk, what, 0, 7, 0));
            passing("reckon with what " + what, desk -> reckon(desk, what, 7, 0, 7));
        }
    }

    private static void compareAndSign() {
        for (int k : NO_RESULTS) {
            index("compare", desk -> desk.compare(k, 0));
            index("compare", desk -> desk.compare(0, k));
            index("compare", desk -> desk.compare(k, k));
            index("sign", desk -> desk.sign(k));
        }
        passing("compare", desk -> desk.compare(0, 7));
        passing("compare", desk -> desk.compare(7, 0));
        passing("sign", desk -> desk.sign(0));
        passing("sign", desk -> desk.sign(7));
    }

    private static void bits() {
        int[] wrong = {-1, 2, 3, Integer.MIN_VALUE, Integer.MAX_VALUE};
        for (int r : NO_RESULTS) {
            index("bits", desk -> desk.bits(r, 0));
            index("bits", desk -> desk.bits(r, 1));
            index("bits", desk -> desk.bits(r, 2));
            index("bits", desk -> desk.bits(r, -1));
        }
        for (int which : wrong) {
            argument("bits", desk -> desk.bits(0, which));
            argument("bits", desk -> desk.bits(7, which));
        }
        passing("bits", desk -> desk.bits(0, 0));
        passing("bits", desk -> desk.bits(7, 1));
    }

    private static void word() {
        int[] wrong = {-1, 2, 3, Integer.MIN_VALUE, Integer.MAX_VALUE};
        int[] noWords = {-1, 64, 65, Integer.MIN_VALUE, Integer.MAX_VALUE};
        for (int r : NO_RESULTS) {
            index("word", desk -> desk.word(r, 0, 0));
            index("word", desk -> desk.word(r, 2, 0));
            index("word", desk -> desk.word(r, 2, 64));
        }
        for (int i : noWords) {
            index("word", desk -> desk.word(0, 0, i));
            index("word", desk -> desk.word(7, 1, i));
            index("word", desk -> desk.word(0, 2, i));
            index("word", desk -> desk.word(0, -1, i));
        }
        for (int which : wrong) {
            argument("word", desk -> desk.word(0, which, 0));
            argument("word", desk -> desk.word(7, which, 63));
        }
        passing("word", desk -> desk.word(0, 0, 63));
        passing("word", desk -> desk.word(7, 1, 0));
    }

    /** What was written is ((a*c)+3/4). */
    private static void written() {
        int[] wrong = {-1, 11, 12, 249, 250, 251, Integer.MIN_VALUE, Integer.MAX_VALUE};
        for (int i : wrong) {
            index("written(" + i + ")", desk -> desk.written(i));
        }
        passing("written(0)", desk -> desk.written(0));
        passing("written(10)", desk -> desk.written(10));
    }

    private static void everythingOnANewObject() {
        for (int k = 0; k < 8; k++) {
            int name = k;
            GradientDesk desk = new GradientDesk();
            Check.dueThrow("new: derive", () -> desk.derive(name, 0, name), Check.NO_SUCH_ELEMENT);
            Check.dueThrow("new: parts", () -> desk.parts(name), Check.NO_SUCH_ELEMENT);
            Check.dueThrow("new: gradient", () -> Check.none(() -> desk.gradient(name)), Check.NO_SUCH_ELEMENT);
            Check.dueThrow("new: along", () -> Check.none(() -> desk.along(name, 0, 0, 0)), Check.NO_SUCH_ELEMENT);
            Check.dueThrow("new: write", () -> desk.write(name), Check.NO_SUCH_ELEMENT);
            Check.dueThrow("new: part", () -> desk.part(name, 0), Check.OUT_OF_BOUNDS);
            Check.dueThrow("new: number", () -> number(desk, name, name), Check.OUT_OF_BOUNDS);
            Check.dueThrow("new: written", () -> desk.written(name), Check.OUT_OF_BOUNDS);
            Check.due("new: sign", desk.sign(name), 0);
            Check.due("new: state", State.of(desk), State.of(new GradientDesk()));
        }
    }
}
