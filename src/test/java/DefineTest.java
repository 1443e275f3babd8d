/** Promises 3, 6 and 10: define, made and clear. */
public final class DefineTest {
    public static void main(String[] args) {
        makesInOrder();
        sharesWhatIsTheSame();
        makesSimple();
        namesAreParts();
        refuses();
        limits();
        sizesOfNumbers();
        full();
        clears();
        Check.end();
    }

    private static void shelf(String text, String due) {
        GradientDesk desk = new GradientDesk();
        Check.define(desk, text, 0);
        Check.due("parts of " + text, Check.shelf(desk), due);
    }

    private static void makesInOrder() {
        shelf("a+b*c", "a b c [1*2] [0+3]");
        shelf("a*b+c", "a b [0*1] c [2+3]");
        shelf("a+b+c", "a b [0+1] c [2+3]");
        shelf("a*b*c", "a b [0*1] c [2*3]");
        shelf("a+(b+c)", "a b c [1+2] [0+3]");
        shelf("a-b", "a b -1 [2*1] [0+3]");
        shelf("a-b-c", "a b -1 [2*1] [0+3] c [2*5] [4+6]");
        shelf("a-b*c", "a b c [1*2] -1 [4*3] [0+5]");
        shelf("-a", "a -1 [1*0]");
        shelf("--a", "a -1 [1*0] [1*2]");
        shelf("-a*b", "a -1 [1*0] b [2*3]");
        shelf("a*-b", "a b -1 [2*1] [0*3]");
        shelf("a--b", "a b -1 [2*1] [2*3] [0+4]");
        shelf("-a^2", "a [0^2] -1 [2*1]");
        shelf("(-a)^2", "a -1 [1*0] [2^2]");
        shelf("a^2*b^3", "a [0^2] b [2^3] [1*3]");
        shelf("-(a+b)^2", "a b [0+1] [2^2] -1 [4*3]");
        shelf("a*(b-c)*a", "a b c -1 [3*2] [1+4] [0*5] [6*0]");
        shelf("a^2^1", "");
        shelf("(a^2)^3", "a [0^2] [1^3]");
        shelf("c+2/4", "c 1/2 [0+1]");
        shelf("c+0012/0018", "c 2/3 [0+1]");
    }

    private static void sharesWhatIsTheSame() {
        shelf("a+a", "a [0+0]");
        shelf("(a+b)*(a+b)", "a b [0+1] [2*2]");
        shelf("(a+b)*(b+a)", "a b [0+1] [1+0] [2*3]");
        shelf("a*b+b*a", "a b [0*1] [1*0] [2+3]");
        shelf("a^2+a^3+a^2", "a [0^2] [0^3] [1+2] [3+1]");
        shelf("1/2*a+3/6*b", "1/2 a [0*1] b [0*3] [2+4]");
        shelf("a*a+a^2", "a [0*0] [0^2] [1+2]");
        shelf("1*2", "1 2");
        shelf("2-2+0", "2 -1 -2 0");
    }

    private static void makesSimple() {
        shelf("0+a", "0 a");
        shelf("a+0", "a 0");
        shelf("0*a", "0 a");
        shelf("a*0", "a 0");
        shelf("1*a", "1 a");
        shelf("a*1", "a 1");
        shelf("a-0", "a 0 -1");
        shelf("1/2+1/3", "1/2 1/3 5/6");
        shelf("1/2+1/2", "1/2 1");
        shelf("1/2*2", "1/2 2 1");
        shelf("-5", "5 -1 -5");
        shelf("-0", "0 -1");
        shelf("2^0", "2 1");
        shelf("0^0", "0 1");
        shelf("a^0", "a 1");
        shelf("(a+b)^0*c", "a b [0+1] 1 c");
        shelf("a^1", "a");
        shelf("2^1", "2");
        shelf("0^5", "0");
        shelf("(-2/3)^3", "2/3 -1 -2/3 -8/27");
        shelf("(-1)^9", "1 -1");
        shelf("-2^2", "2 4 -1 -4");
        answer("0*a", 0);
        answer("a*0", 1);
        answer("1*a", 1);
        answer("a*1", 0);
        answer("a+0", 0);
        answer("0+a", 1);
        answer("0*1", 0);
        answer("1*0", 1);
    }

    private static void answer(String text, int due) {
        Check.due("define of " + text, Check.define(new GradientDesk(), text, 3), due);
    }

    private static void namesAreParts() {
        GradientDesk desk = new GradientDesk();
        Check.due("A", Check.define(desk, "a+b", 0), 2);
        Check.due("B", Check.define(desk, "A", 1), 2);
        Check.due("A anew, from A", Check.define(desk, "A*A", 0), 3);
        Check.due("B is still the old one", Check.define(desk, "B", 2), 2);
        Check.due("A anew", Check.define(desk, "c", 0), 4);
        Check.due("A^2", Check.define(desk, "A^2", 7), 5);
        Check.due("H", Check.define(desk, "H", 0), 5);
        Check.due("parts", Check.shelf(desk), "a b [0+1] [2*2] c [4^2]");
    }

    private static void refuses() {
        GradientDesk desk = new GradientDesk();
        Check.define(desk, "a+b", 0);
        int[] wrongNames = {-1, 8, Integer.MIN_VALUE, Integer.MAX_VALUE};
        for (int name : wrongNames) {
            Check.dueThrow("define(" + name + ")", () -> desk.define(name), Check.ILLEGAL_ARGUMENT);
        }
        desk.type('c', 1);
        Check.dueThrow("define(8)", () -> desk.define(8), Check.ILLEGAL_ARGUMENT);
        Check.due("the text is still there", desk.type('^', 1), 2);
        refused(desk, "", GradientDesk.SYNTAX);
        refused(desk, "B", GradientDesk.UNKNOWN);
        refused(desk, "B+", GradientDesk.SYNTAX);
        refused(desk, "a^9+B", GradientDesk.UNKNOWN);
        refused(desk, "c+7+B^0", GradientDesk.UNKNOWN);
        refused(desk, "c*77+a^9", GradientDesk.LARGE);
        Check.due("A has stayed", Check.define(desk, "A", 1), 2);
    }

    private static void refused(GradientDesk desk, String more, int due) {
        int before = desk.made();
        Check.type(desk, more);
        Check.due("define of " + more, desk.define(0), due);
        Check.due("made() behind " + more, desk.made(), before);
        Check.due("the text is empty behind " + more, desk.type('a', 1), 1);
        desk.define(7);
        Check.due("A behind " + more, desk.parts(0), 3);
    }

    private static void limits() {
        answer("a^8", 1);
        answer("a^9", GradientDesk.LARGE);
        answer("a^4*b^4", 4);
        answer("a^4*b^4*c", GradientDesk.LARGE);
        answer("a^5*b^4", GradientDesk.LARGE);
        answer("(a*b)^4", 3);
        answer("(a*b)^5", GradientDesk.LARGE);
        answer("((a^2)^2)^2", 3);
        answer("((a^2)^2)^3", GradientDesk.LARGE);
        answer("a^8+b^8*0+c^9*0", GradientDesk.LARGE);
        answer("a^8+b", 3);
        answer("a^8*1/3", 3);
        // n of a product with a is n + 1 + 8, so 391 bits are the most.
        GradientDesk desk = new GradientDesk();
        twoTo(desk, 390);
        Check.due("391 bits times a", Check.define(desk, "A*a", 1), desk.made() - 1);
        Check.due("its n", desk.part(desk.made() - 1, 4), 400);
        twoTo(desk, 391);
        Check.due("392 bits times a", Check.define(desk, "A*a", 1), GradientDesk.LARGE);
        Check.due("392 bits plus a", Check.define(desk, "A+a", 1), desk.made() - 1);
        Check.due("its n", desk.part(desk.made() - 1, 4), 393);
        twoTo(desk, 399);
        Check.due("400 bits plus a", Check.define(desk, "A+a", 1), GradientDesk.LARGE);
        Check.due("400 bits times 0", Check.define(desk, "A*0*a", 1), desk.made() - 2);
        // d of a sum is the sum of both, and n grows with the other one's d.
        oneByTwoTo(desk, 199);
        Check.due("d of a sum", Check.define(desk, "A*a+A*b", 1), desk.made() - 1);
        Check.due("its d", desk.part(desk.made() - 1, 5), 400);
        Check.due("its n", desk.part(desk.made() - 1, 4), 211);
        Check.due("d of a sum", Check.define(desk, "A*a+1/2*A*b", 1), GradientDesk.LARGE);
        Check.due("d 400", Check.define(desk, "A*(A*a)", 1), desk.made() - 1);
        Check.due("its d", desk.part(desk.made() - 1, 5), 400);
        Check.due("d 401", Check.define(desk, "A*(1/2*A*a)", 1), GradientDesk.LARGE);
        Check.due("d of a power", Check.define(desk, "(A*a)^2", 1), desk.made() - 1);
        Check.due("its d", desk.part(desk.made() - 1, 5), 400);
        Check.due("d of a power", Check.define(desk, "(1/2*A*a)^2", 1), GradientDesk.LARGE);
    }

    private static void sizesOfNumbers() {
        GradientDesk desk = new GradientDesk();
        twoTo(desk, 399);
        Check.due("2^399", desk.part(desk.made() - 1, 4), 400);
        int before = desk.made();
        Check.due("2^400", Check.define(desk, "2*A", 1), GradientDesk.LARGE);
        Check.due("2^399+2^399", Check.define(desk, "A+A", 1), GradientDesk.LARGE);
        Check.due("nothing of it", desk.made(), before);
        Check.due("2^400/2", Check.define(desk, "2*(1/2*A)", 1), desk.made() - 2);
        Check.due("-2^399", Check.define(desk, "-A", 1), desk.made() - 1);
        oneByTwoTo(desk, 399);
        Check.due("1/2^399", desk.part(desk.made() - 1, 5), 400);
        Check.due("1/2^400", Check.define(desk, "1/2*A", 1), GradientDesk.LARGE);
        Check.due("d of 1/2^399 + 1/2^399", desk.part(Check.define(desk, "A+A", 1), 5), 399);
        Check.due("1/2^399 + 1/3", Check.define(desk, "A+1/3", 1), GradientDesk.LARGE);
        Check.due("(1/9999^9)^9", Check.define(desk, "(1/9999^9)^9", 1), GradientDesk.LARGE);
        Check.due("(1/9999^9)^3", Check.define(desk, "(1/9999^9)^3", 1), desk.made() - 1);
    }

    /** All is cleared, and A becomes 2^n. */
    static void twoTo(GradientDesk desk, int n) {
        power(desk, "2", n);
    }

    static void oneByTwoTo(GradientDesk desk, int n) {
        power(desk, "1/2", n);
    }

    private static void power(GradientDesk desk, String base, int n) {
        desk.clear();
        Check.define(desk, "1", 0);
        for (int bit = 10; bit >= 0; bit--) {
            Check.define(desk, (n >> bit & 1) == 1 ? "A*A*" + base : "A*A", 0);
        }
    }

    private static void full() {
        GradientDesk desk = new GradientDesk();
        Check.define(desk, "a", 0);
        for (int k = 1; k < 199; k++) {
            Check.define(desk, "A+b", 0);
        }
        Check.due("a, b and 197 sums, and one", desk.made(), 200);
        Check.due("the last one", Check.define(desk, "A", 1), 199);
        Check.due("one too many", Check.define(desk, "A+b", 0), GradientDesk.FULL);
        Check.due("what is there can be made", Check.define(desk, "a+b", 2), 2);
        Check.due("too large goes before", Check.define(desk, "a^9", 2), GradientDesk.LARGE);
        Check.due("the first one counts", Check.define(desk, "a^8+a^9", 2), GradientDesk.FULL);
        Check.due("A has stayed", Check.define(desk, "A", 3), 199);
        Check.due("made()", desk.made(), 200);
        Check.due("derive", desk.derive(0, 0, 3), GradientDesk.FULL);
        desk.clear();
        Check.due("made()", desk.made(), 0);
        Check.due("room again", Check.define(desk, "a+b", 2), 2);
        takesBack();
    }

    private static void takesBack() {
        GradientDesk desk = new GradientDesk();
        Check.define(desk, "a", 0);
        for (int k = 1; k < 196; k++) {
            Check.define(desk, "A+b", 0);
        }
        Check.due("made()", desk.made(), 197);
        Check.due("a^2, a^3, a^4, and too many", Check.define(desk, "a^2+a^3+a^4", 0), GradientDesk.FULL);
        Check.due("taken back", desk.made(), 197);
        Check.due("A has stayed", Check.define(desk, "A", 1), 196);
        Check.due("too large behind", Check.define(desk, "a^2*a^3*a^4", 0), GradientDesk.FULL);
        Check.due("there is room for three", Check.define(desk, "a^2*a^3", 0), 199);
    }

    private static void clears() {
        GradientDesk desk = new GradientDesk();
        desk.set(0, 3, 4);
        Check.define(desk, "a*2+c", 0);
        desk.gradient(0);
        desk.write(0);
        Check.type(desk, "a*");
        desk.clear();
        Check.due("made()", desk.made(), 0);
        for (int k = 0; k < 8; k++) {
            int name = k;
            Check.dueThrow("parts behind clear()", () -> desk.parts(name), Check.NO_SUCH_ELEMENT);
        }
        Check.dueThrow("part behind clear()", () -> desk.part(0, 0), Check.OUT_OF_BOUNDS);
        Check.due("results stay", Check.result(desk, 0), "3/2");
        Check.due("what was written stays", Check.lastWritten(desk), "((a*2)+c)");
        Check.due("the text stays", desk.type('a', 1), 3);
        Check.due("parts begin anew", desk.define(5), 1);
        desk.gradient(5);
        Check.due("the point stays", Check.result(desk, 0), "9/16");
        desk.clear();
        Check.due("UNKNOWN behind clear()", Check.define(desk, "F", 0), GradientDesk.UNKNOWN);
        State.stays("clear() where nothing is", GradientDesk::new, GradientDesk::clear);
        State.stays("clear() twice", DefineTest::cleared, GradientDesk::clear);
    }

    private static GradientDesk cleared() {
        GradientDesk desk = new GradientDesk();
        Check.define(desk, "a+", 0);
        Check.define(desk, "a*7", 0);
        desk.set(1, 3, 4);
        Check.type(desk, "-b+");
        desk.clear();
        return desk;
    }
}
