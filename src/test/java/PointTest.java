import java.math.BigInteger;

/** Promises 11, 12 and 13: set, gradient and along. */
public final class PointTest {
    public static void main(String[] args) {
        values();
        atZero();
        gradientIsOfDerivatives();
        along();
        withoutRoom();
        refuses();
        longest();
        Check.end();
    }

    private static void results(GradientDesk desk, String what, int from, String... due) {
        for (int k = 0; k < due.length; k++) {
            Check.due(what + ": result " + (from + k), Check.result(desk, from + k), due[k]);
        }
    }

    private static void gradient(String text, String... due) {
        GradientDesk desk = new GradientDesk();
        desk.set(0, 1, 2);
        desk.set(1, -3, 7);
        desk.set(2, 10, 2);
        Check.define(desk, text, 6);
        desk.gradient(6);
        results(desk, text, 0, due);
        results(desk, text, 4, "0/1", "0/1", "0/1", "0/1");
    }

    private static void values() {
        gradient("a", "1/2", "1/1", "0/1", "0/1");
        gradient("b", "-3/7", "0/1", "1/1", "0/1");
        gradient("c", "5/1", "0/1", "0/1", "1/1");
        gradient("3/4", "3/4", "0/1", "0/1", "0/1");
        gradient("0", "0/1", "0/1", "0/1", "0/1");
        gradient("a+b", "1/14", "1/1", "1/1", "0/1");
        gradient("a-a", "0/1", "0/1", "0/1", "0/1");
        gradient("a*b*c", "-15/14", "-15/7", "5/2", "-3/14");
        gradient("c^8", "390625/1", "0/1", "0/1", "625000/1");
        gradient("a^2", "1/4", "1/1", "0/1", "0/1");
        gradient("2*a", "1/1", "2/1", "0/1", "0/1");
        gradient("a^2*b+3/4*c-(a-b)^3", "7799/2744", "-591/196", "139/49", "3/4");
        gradient("(a+b)*(a+b)", "1/196", "1/7", "1/7", "0/1");
        gradient("1/3*a+1/6*b", "2/21", "1/3", "1/6", "0/1");
    }

    private static void atZero() {
        GradientDesk desk = new GradientDesk();
        Check.define(desk, "(a+1)^2*b+a^3+5*c", 0);
        desk.gradient(0);
        results(desk, "at 0", 0, "0/1", "0/1", "1/1", "5/1");
        desk.set(2, 0, 9999);
        desk.set(1, 4, 6);
        desk.gradient(0);
        results(desk, "at 0, 2/3, 0", 0, "2/3", "4/3", "1/1", "5/1");
        desk.set(1, 0, 1);
        desk.set(0, -9999, 9999);
        desk.gradient(0);
        results(desk, "at -1, 0, 0", 0, "-1/1", "3/1", "0/1", "5/1");
        desk.set(0, 9999, 1);
        desk.gradient(0);
        results(desk, "at 9999, 0, 0", 0, "999700029999/1", "299940003/1", "100000000/1", "5/1");
        desk.set(0, 1, 9999);
        desk.gradient(0);
        results(desk, "at 1/9999, 0, 0", 0, "1/999700029999", "1/33326667", "100000000/99980001", "5/1");
    }

    /** derive() and gradient() must say the same. */
    private static void gradientIsOfDerivatives() {
        GradientDesk desk = new GradientDesk();
        desk.set(0, 7, 5);
        desk.set(1, -22, 3);
        desk.set(2, 1, 9);
        Check.define(desk, "(a^2-3/7*b*c)^3*(a+c)-b^2*(c-5)^4", 0);
        desk.gradient(0);
        String[] slopes = {Check.result(desk, 1), Check.result(desk, 2), Check.result(desk, 3)};
        for (int v = 0; v < 3; v++) {
            desk.derive(0, v, 1);
            desk.gradient(1);
            Check.due("derivative by " + v, Check.result(desk, 0), slopes[v]);
        }
    }

    private static void along() {
        GradientDesk desk = new GradientDesk();
        desk.set(0, 1, 2);
        desk.set(1, -3, 7);
        desk.set(2, 5, 1);
        Check.define(desk, "a^2*b+3/4*c-(a-b)^3", 0);
        along(desk, 1, 0, 0, "-591/196");
        along(desk, 0, 1, 0, "139/49");
        along(desk, 0, 0, 1, "3/4");
        along(desk, 0, 0, 0, "0/1");
        along(desk, -1, 0, 0, "591/196");
        along(desk, 2, -3, 4, "-1131/98");
        along(desk, 999, -999, 999, "-249750/49");
        along(desk, -999, 999, -999, "249750/49");
        results(desk, "results of gradient() stay", 0, "0/1", "0/1", "0/1", "0/1");
        results(desk, "results behind stay", 6, "0/1", "0/1");
    }

    private static void along(GradientDesk desk, int x, int y, int z, String due) {
        desk.along(0, x, y, z);
        results(desk, "along " + x + ", " + y + ", " + z, 4, "7799/2744", due);
    }

    /** Derivatives are told though their parts would be too many or too large. */
    private static void withoutRoom() {
        GradientDesk desk = new GradientDesk();
        desk.set(0, 2, 1);
        Check.define(desk, "a^2", 0);
        for (int k = 1; k < 198; k++) {
            Check.define(desk, "A+b", 0);
        }
        Check.due("made()", desk.made(), 200);
        desk.gradient(0);
        results(desk, "200 parts", 0, "4/1", "4/1", "197/1", "0/1");
        desk.along(0, 1, 10, 100);
        results(desk, "200 parts", 4, "4/1", "1974/1");
        Check.due("made()", desk.made(), 200);
        DefineTest.oneByTwoTo(desk, 100);
        Check.define(desk, "A*a*(A*a+1)*4", 1);
        Check.due("too large", desk.derive(1, 0, 2), GradientDesk.LARGE);
        desk.gradient(1);
        BigInteger p = BigInteger.ONE.shiftLeft(98).add(BigInteger.ONE);
        BigInteger q = BigInteger.ONE.shiftLeft(196);
        Check.due("too large: slope", Check.result(desk, 1), p + "/" + q);
    }

    private static void refuses() {
        GradientDesk desk = new GradientDesk();
        Check.define(desk, "a+b+c", 0);
        desk.set(0, 5, 1);
        desk.gradient(0);
        desk.along(0, 1, 2, 3);
        int[] wrongVariables = {-1, 3, Integer.MIN_VALUE, Integer.MAX_VALUE};
        for (int v : wrongVariables) {
            refuses(desk, v, 1, 1);
        }
        int[] wrongUppers = {-10000, 10000, Integer.MIN_VALUE, Integer.MAX_VALUE};
        for (int p : wrongUppers) {
            refuses(desk, 0, p, 1);
        }
        int[] wrongLowers = {0, -1, 10000, Integer.MIN_VALUE, Integer.MAX_VALUE};
        for (int q : wrongLowers) {
            refuses(desk, 0, 1, q);
        }
        int[] wrongNames = {-1, 8, Integer.MIN_VALUE};
        for (int name : wrongNames) {
            Check.dueThrow("gradient", () -> Check.none(() -> desk.gradient(name)), Check.ILLEGAL_ARGUMENT);
            Check.dueThrow("along", () -> Check.none(() -> desk.along(name, 0, 0, 0)), Check.ILLEGAL_ARGUMENT);
        }
        int[] wrongSteps = {-1000, 1000, Integer.MIN_VALUE, Integer.MAX_VALUE};
        for (int s : wrongSteps) {
            for (int name = 0; name < 2; name++) {
                int which = name;
                Check.dueThrow("x", () -> Check.none(() -> desk.along(which, s, 0, 0)), Check.ILLEGAL_ARGUMENT);
                Check.dueThrow("y", () -> Check.none(() -> desk.along(which, 0, s, 0)), Check.ILLEGAL_ARGUMENT);
                Check.dueThrow("z", () -> Check.none(() -> desk.along(which, 0, 0, s)), Check.ILLEGAL_ARGUMENT);
            }
        }
        Check.dueThrow("gradient of none", () -> Check.none(() -> desk.gradient(1)), Check.NO_SUCH_ELEMENT);
        Check.dueThrow("along of none", () -> Check.none(() -> desk.along(7, 0, 0, 0)), Check.NO_SUCH_ELEMENT);
        results(desk, "what throws changes nothing", 0, "5/1", "1/1", "1/1", "1/1", "5/1", "6/1");
        desk.gradient(0);
        results(desk, "the point has stayed", 0, "5/1");
    }

    private static void refuses(GradientDesk desk, int variable, int p, int q) {
        Check.dueThrow("set(" + variable + ", " + p + ", " + q + ")",
                () -> Check.none(() -> desk.set(variable, p, q)), Check.ILLEGAL_ARGUMENT);
    }

    /** The longest numbers that the limits let through, compared with the model. */
    private static void longest() {
        longest("A*a^8+b^8-c^8", "9997/9998*9995/9998", "(9997/9998)^9", "(9991/9998)^9");
        longest("A*a^8+b^8-c^8", "9998/9997", "(9998/9997)^9", "(9998/9997)^9");
        longest("A*a^8+b^8-c^8", "-1", "(1/9999)^9", "(1/9999)^9");
        longest("A*(a*b*c)^2+(a*b)^4+c^8-(b*c)^4+a^8", "9989/9991", "(9998/9997)^9", "(9972/9973)^9");
        longest("(A*a+b)^3*(a-b-c)^4*(c+7/9)", "1/9999", "9998/9997", "9901/9973");
    }

    private static void longest(String text, String... factors) {
        GradientDesk desk = new GradientDesk();
        Model model = new Model();
        define(desk, model, "1");
        for (String factor : factors) {
            define(desk, model, "A*" + factor);
        }
        define(desk, model, text);
        int[][] points = {{9999, 9998, -9997, 9995, 9994, 9991}, {9973, 9967, 9949, 9941, -9931, 9929}, {-1, 9999, 1, 9998, 1, 9997}};
        for (int[] p : points) {
            for (int v = 0; v < 3; v++) {
                desk.set(v, p[2 * v], p[2 * v + 1]);
                model.set(v, p[2 * v], p[2 * v + 1]);
            }
            desk.gradient(0);
            model.gradient(0);
            desk.along(0, 999, -999, 998);
            model.along(0, 999, -999, 998);
            for (int r = 0; r < 6; r++) {
                Check.due(text + ": result " + r, Check.result(desk, r), model.results[r].p() + "/" + model.results[r].q());
            }
        }
    }

    private static void define(GradientDesk desk, Model model, String text) {
        int part = Check.define(desk, text, 0);
        for (char c : text.toCharArray()) {
            model.type(c, 1);
        }
        Check.due("define of " + text, part, model.define(0));
        Check.due(text + " is a part", part >= 0 ? 1 : 0, 1);
    }
}
