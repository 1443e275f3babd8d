/** Promises 5, 7, 8 and 9: derive, parts, part and number. */
public final class DeriveTest {
    public static void main(String[] args) {
        makesInOrder();
        writesDerivatives();
        givesNames();
        refuses();
        limits();
        countsParts();
        tellsParts();
        givesNumbers();
        Check.end();
    }

    private static void shelf(String text, int variable, int due, String parts) {
        GradientDesk desk = new GradientDesk();
        Check.define(desk, text, 0);
        Check.due("derivative of " + text + " by " + variable, desk.derive(0, variable, 1), due);
        Check.due("parts of " + text + " and its derivative by " + variable, Check.shelf(desk), parts);
    }

    private static void makesInOrder() {
        shelf("5/3", 0, 1, "5/3 0");
        shelf("0", 2, 0, "0");
        shelf("1", 2, 1, "1 0");
        shelf("a", 0, 1, "a 1");
        shelf("a", 1, 1, "a 0");
        shelf("b", 1, 1, "b 1");
        shelf("c", 2, 1, "c 1");
        shelf("a+b", 0, 3, "a b [0+1] 1 0");
        shelf("a+b", 1, 4, "a b [0+1] 0 1");
        shelf("a+a", 0, 3, "a [0+0] 1 2");
        shelf("a*b", 0, 1, "a b [0*1] 1 0");
        shelf("a*a", 0, 3, "a [0*0] 1 [0+0]");
        shelf("a^2", 0, 4, "a [0^2] 1 2 [3*0]");
        shelf("a^3", 0, 5, "a [0^3] 1 3 [0^2] [3*4]");
        // x^(n-1) is made though x' is 0.
        shelf("a^3", 1, 2, "a [0^3] 0 3 [0^2] [3*4]");
        shelf("(a*b)^2", 0, 8, "a b [0*1] [2^2] 1 0 2 [6*2] [7*1]");
        shelf("(a+b)^4*b", 1, 11, "a b [0+1] [2^4] [3*1] 0 1 4 [2^3] [7*8] [9*1] [10+3]");
    }

    private static void written(String text, String variables, String due) {
        GradientDesk desk = new GradientDesk();
        Check.define(desk, text, 0);
        for (char c : variables.toCharArray()) {
            desk.derive(0, c - 'a', 0);
        }
        Check.due(text + " by " + variables, Check.written(desk, 0), due);
    }

    private static void writesDerivatives() {
        written("a^2*b+3/4*c", "a", "((2*a)*b)");
        written("a^2*b+3/4*c", "b", "a^2");
        written("a^2*b+3/4*c", "c", "3/4");
        written("a^2*b+3/4*c", "ab", "(2*a)");
        written("a^2*b+3/4*c", "aba", "2");
        written("a^2*b+3/4*c", "abac", "0");
        written("a*a", "a", "(a+a)");
        written("(a+b)^3", "a", "(3*(a+b)^2)");
        written("(a-b)^2", "b", "((2*(a+(-1*b)))*-1)");
        written("a*b*c", "b", "(a*c)");
        written("(a*b)^2", "a", "((2*(a*b))*b)");
        written("(a^2)^3", "a", "((3*a^2^2)*(2*a))");
        written("2*a+3*a", "a", "5");
        written("a-a", "a", "0");
    }

    private static void givesNames() {
        GradientDesk desk = new GradientDesk();
        Check.define(desk, "a^2*b", 3);
        desk.derive(3, 0, 4);
        Check.due("of", Check.written(desk, 3), "(a^2*b)");
        Check.due("name", Check.written(desk, 4), "((2*a)*b)");
        desk.derive(3, 1, 3);
        Check.due("of and name are one", Check.written(desk, 3), "a^2");
        int made = desk.made();
        Check.due("what is there is that one", desk.derive(4, 1, 7), desk.derive(4, 1, 6));
        Check.due("made()", desk.made(), made);
        Check.due("the text stays", typedAround(desk), 2);
    }

    private static int typedAround(GradientDesk desk) {
        desk.type('a', 1);
        desk.derive(4, 0, 4);
        return desk.type('a', 1);
    }

    private static void refuses() {
        GradientDesk desk = new GradientDesk();
        Check.define(desk, "a^2", 0);
        int[] wrong = {-1, 8, Integer.MIN_VALUE, Integer.MAX_VALUE};
        for (int k : wrong) {
            Check.dueThrow("derive of " + k, () -> desk.derive(k, 0, 0), Check.ILLEGAL_ARGUMENT);
            Check.dueThrow("derive by " + k, () -> desk.derive(0, k, 0), Check.ILLEGAL_ARGUMENT);
            Check.dueThrow("derive to " + k, () -> desk.derive(0, 0, k), Check.ILLEGAL_ARGUMENT);
            Check.dueThrow("derive, the name first", () -> desk.derive(1, 0, k), Check.ILLEGAL_ARGUMENT);
            Check.dueThrow("parts of " + k, () -> desk.parts(k), Check.ILLEGAL_ARGUMENT);
        }
        Check.dueThrow("derive by 3", () -> desk.derive(1, 3, 0), Check.ILLEGAL_ARGUMENT);
        Check.dueThrow("derive of none", () -> desk.derive(1, 0, 0), Check.NO_SUCH_ELEMENT);
        Check.dueThrow("derive of none to itself", () -> desk.derive(7, 2, 7), Check.NO_SUCH_ELEMENT);
        Check.dueThrow("parts of none", () -> desk.parts(7), Check.NO_SUCH_ELEMENT);
        Check.due("made()", desk.made(), 2);
        Check.due("A", Check.written(desk, 0), "a^2");
    }

    /** Both products in the derivative of a product have the d of the product, and their sum twice that. */
    private static void limits() {
        GradientDesk desk = new GradientDesk();
        DefineTest.oneByTwoTo(desk, 99);
        Check.define(desk, "A*a*(A*a+1)", 1);
        Check.due("d of the product", desk.part(desk.made() - 1, 5), 200);
        Check.due("d of the derivative", desk.part(desk.derive(1, 0, 1), 5), 400);
        DefineTest.oneByTwoTo(desk, 100);
        Check.define(desk, "A*a*(A*a+1)", 1);
        int made = desk.made();
        Check.due("d of the product", desk.part(made - 1, 5), 202);
        Check.due("too large", desk.derive(1, 0, 1), GradientDesk.LARGE);
        Check.due("taken back", desk.made(), made);
        Check.due("B has stayed", Check.define(desk, "B", 2), made - 1);
        Check.due("by another variable", desk.part(desk.derive(1, 1, 1), 0), 0);
        full(desk);
    }

    private static void full(GradientDesk desk) {
        desk.clear();
        Check.define(desk, "a^2", 0);
        for (int k = 1; k < 196; k++) {
            Check.define(desk, "A+b", 0);
        }
        Check.due("made()", desk.made(), 198);
        Check.due("a third too many", desk.derive(0, 0, 0), GradientDesk.FULL);
        Check.due("made()", desk.made(), 198);
        Check.due("A has stayed", desk.parts(0), 198);
        Check.due("two", Check.define(desk, "0*1", 1), 198);
        Check.due("200 and none more", desk.derive(1, 0, 2), 198);
        Check.due("made()", desk.made(), 200);
    }

    private static void countsParts() {
        GradientDesk desk = new GradientDesk();
        parts(desk, "a", 1);
        parts(desk, "a+b", 3);
        parts(desk, "a*a+a", 3);
        parts(desk, "(a+b)*(a+b)", 4);
        parts(desk, "a^2*a^2", 3);
        parts(desk, "7/3", 1);
        parts(desk, "1*a", 1);
        parts(desk, "a-b", 5);
        parts(desk, "A*b+A", 7);
    }

    private static void parts(GradientDesk desk, String text, int due) {
        Check.define(desk, text, 0);
        Check.due("parts of " + text, desk.parts(0), due);
    }

    private static void part(GradientDesk desk, int i, int... due) {
        for (int what = 0; what < 6; what++) {
            Check.due("part(" + i + ", " + what + ")", desk.part(i, what), due[what]);
        }
    }

    private static void tellsParts() {
        GradientDesk desk = new GradientDesk();
        Check.define(desk, "a+c*b^3", 0);
        part(desk, 0, 1, 0, -1, 1, 1, 0);
        part(desk, 1, 1, 2, -1, 1, 1, 0);
        part(desk, 2, 1, 1, -1, 1, 1, 0);
        part(desk, 3, 4, 2, 3, 3, 27, 0);
        part(desk, 4, 3, 1, 3, 4, 36, 0);
        part(desk, 5, 2, 0, 4, 4, 37, 0);
        Check.define(desk, "(3/4*a+5/16)*0", 1);
        part(desk, 6, 0, -1, -1, 0, 2, 3);
        part(desk, 7, 3, 6, 0, 1, 11, 3);
        part(desk, 8, 0, -1, -1, 0, 3, 5);
        part(desk, 9, 2, 7, 8, 1, 17, 8);
        part(desk, 10, 0, -1, -1, 0, 1, 0);
        Check.define(desk, "-1*a+9999", 1);
        part(desk, 11, 0, -1, -1, 0, 1, 0);
        part(desk, 12, 0, -1, -1, 0, 1, 0);
        Check.define(desk, "(3/4*a+5/16)^3", 1);
        part(desk, desk.made() - 1, 4, 9, 3, 3, 75, 24);
        int made = desk.made();
        int[] wrongParts = {-1, made, made + 1, 200, Integer.MIN_VALUE, Integer.MAX_VALUE};
        for (int i : wrongParts) {
            Check.dueThrow("part " + i, () -> desk.part(i, 0), Check.OUT_OF_BOUNDS);
            Check.dueThrow("part " + i + ", 6", () -> desk.part(i, 6), Check.OUT_OF_BOUNDS);
        }
        int[] wrongWhats = {-1, 6, Integer.MIN_VALUE, Integer.MAX_VALUE};
        for (int what : wrongWhats) {
            Check.dueThrow("what " + what, () -> desk.part(0, what), Check.ILLEGAL_ARGUMENT);
        }
    }

    private static void givesNumbers() {
        GradientDesk desk = new GradientDesk();
        Check.define(desk, "-6/8*a+0", 0);
        Check.due("3/4", desk.number(0, 2) ? 1 : 0, 1);
        Check.due("3/4", Check.result(desk, 2), "3/4");
        Check.due("-3/4", desk.number(2, 7) ? 1 : 0, 1);
        Check.due("-3/4", Check.result(desk, 7), "-3/4");
        Check.due("a", desk.number(3, 7) ? 1 : 0, 0);
        Check.due("0 for a", Check.result(desk, 7), "0/1");
        Check.due("a product", desk.number(4, 2) ? 1 : 0, 0);
        Check.due("0 for a product", Check.result(desk, 2), "0/1");
        Check.due("0", desk.number(5, 0) ? 1 : 0, 1);
        Check.due("0", Check.result(desk, 0), "0/1");
        desk.number(0, 3);
        int[] wrongParts = {-1, 6, Integer.MAX_VALUE};
        for (int i : wrongParts) {
            Check.dueThrow("part " + i, () -> desk.number(i, 3) ? 1 : 0, Check.OUT_OF_BOUNDS);
        }
        int[] wrongResults = {-1, 8, Integer.MIN_VALUE};
        for (int r : wrongResults) {
            Check.dueThrow("result " + r, () -> desk.number(0, r) ? 1 : 0, Check.OUT_OF_BOUNDS);
        }
        Check.due("what throws changes nothing", Check.result(desk, 3), "3/4");
        // A part that stands where a number was before is no number.
        desk.clear();
        Check.define(desk, "b", 0);
        Check.due("b", desk.number(0, 3) ? 1 : 0, 0);
        Check.due("b", Check.result(desk, 3), "0/1");
    }
}
