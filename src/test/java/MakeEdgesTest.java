/** The edges of TO MAKE and of PARTS: 0 and 1, exponents, what is there already, the order, 200 parts. */
public final class MakeEdgesTest {
    public static void main(String[] args) {
        sumsWithZero();
        productsWithZeroAndOne();
        powersWithZeroAndOne();
        numbersOfNumbers();
        minus();
        zeroAndOneThatCameOfNumbers();
        almostTheSame();
        orderOfOperators();
        namesMakeNoPart();
        twoHundredParts();
        whatIsThereNeedsNoRoom();
        Check.end();
    }

    /** The parts of a text on a new desk, and which of them it is. */
    private static void made(String text, int due, String parts) {
        GradientDesk desk = new GradientDesk();
        Check.due("define of " + text, Check.define(desk, text, 0), due);
        Check.due("parts of " + text, Check.shelf(desk), parts);
    }

    private static void sumsWithZero() {
        made("0+a", 1, "0 a");
        made("a+0", 0, "a 0");
        made("0+0", 0, "0");
        made("0+5", 1, "0 5");
        made("5+0", 0, "5 0");
        made("0/7+a", 1, "0 a");
        made("1+a", 2, "1 a [0+1]");
        made("a+1", 2, "a 1 [0+1]");
        made("0+(a+b)", 3, "0 a b [1+2]");
        made("a*b+0", 2, "a b [0*1] 0");
        made("a^2+0", 1, "a [0^2] 0");
    }

    private static void productsWithZeroAndOne() {
        made("0*a", 0, "0 a");
        made("a*0", 1, "a 0");
        made("1*a", 1, "1 a");
        made("a*1", 0, "a 1");
        made("0*0", 0, "0");
        made("0*1", 0, "0 1");
        made("1*0", 1, "1 0");
        made("1*1", 0, "1");
        made("0*7", 0, "0 7");
        made("7*0", 1, "7 0");
        made("1*7", 1, "1 7");
        made("7*1", 0, "7 1");
        made("2*a", 2, "2 a [0*1]");
        made("a*2", 2, "a 2 [0*1]");
        made("1/2*a", 2, "1/2 a [0*1]");
        made("(0-1)*a", 4, "0 1 -1 a [2*3]");
        made("9999/9999*a", 1, "1 a");
        made("(a+b)*0", 3, "a b [0+1] 0");
        made("(a+b)*1", 2, "a b [0+1] 1");
        made("0*a^8*a^8", 0, "0 a [1^8]");
    }

    private static void powersWithZeroAndOne() {
        made("a^0", 1, "a 1");
        made("a^1", 0, "a");
        made("a^2", 1, "a [0^2]");
        made("a^8", 1, "a [0^8]");
        made("(a^8)^0", 2, "a [0^8] 1");
        made("(a^8)^1", 1, "a [0^8]");
        made("(a+b)^0", 3, "a b [0+1] 1");
        made("(a+b)^1", 2, "a b [0+1]");
        made("0^0", 1, "0 1");
        made("0^1", 0, "0");
        made("0^9", 0, "0");
        made("1^0", 0, "1");
        made("1^9", 0, "1");
        made("7^0", 1, "7 1");
        made("7^1", 0, "7");
        made("2^9", 1, "2 512");
        made("(2/3)^2", 1, "2/3 4/9");
        made("2/3^2", 1, "2/3 4/9");
        made("(0-1)^8", 1, "0 1 -1");
        made("(0-1)^9", 2, "0 1 -1");
        made("(0-2)^9", 4, "0 2 -1 -2 -512");
    }

    private static void numbersOfNumbers() {
        made("1/2+1/2", 1, "1/2 1");
        made("1/2-1/2", 3, "1/2 -1 -1/2 0");
        made("1/6+1/3", 2, "1/6 1/3 1/2");
        made("2/3*3/2", 2, "2/3 3/2 1");
        made("2*3+a", 4, "2 3 6 a [2+3]");
        made("a+2+3", 4, "a 2 [0+1] 3 [2+3]");
        made("2+a+3", 4, "2 a [0+1] 3 [2+3]");
        made("a*2*3", 4, "a 2 [0*1] 3 [2*3]");
        made("2^3*a", 3, "2 8 a [1*2]");
        made("4/2", 0, "2");
        made("0/9999", 0, "0");
        made("9999/9999", 0, "1");
    }

    private static void minus() {
        made("-a", 2, "a -1 [1*0]");
        made("--a", 3, "a -1 [1*0] [1*2]");
        made("---a", 4, "a -1 [1*0] [1*2] [1*3]");
        made("-0", 0, "0 -1");
        made("-1", 1, "1 -1");
        made("--1", 0, "1 -1");
        made("-1*a", 3, "1 -1 a [1*2]");
        made("-a^2", 3, "a [0^2] -1 [2*1]");
        made("-a*b", 4, "a -1 [1*0] b [2*3]");
        made("-a^0", 2, "a 1 -1");
        made("a-0", 0, "a 0 -1");
        made("0-a", 3, "0 a -1 [2*1]");
        made("a-a", 3, "a -1 [1*0] [0+2]");
        made("a-1", 3, "a 1 -1 [0+2]");
        made("1-1", 2, "1 -1 0");
        made("a--1", 3, "a 1 -1 [0+1]");
        made("a*-0", 1, "a 0 -1");
        made("a*-1", 3, "a 1 -1 [0*2]");
        made("a*--1", 0, "a 1 -1");
    }

    private static void zeroAndOneThatCameOfNumbers() {
        made("(1-1)*a", 2, "1 -1 0 a");
        made("(2-1)*a", 3, "2 1 -1 a");
        made("a+(1/2-2/4)", 0, "a 1/2 -1 -1/2 0");
        made("a*(1/3*3)", 0, "a 1/3 3 1");
        made("(1/3+2/3)*a", 3, "1/3 2/3 1 a");
        made("a^0*b", 2, "a 1 b");
        made("b*a^0", 0, "b a 1");
        made("(a^0-1)*b", 3, "a 1 -1 0 b");
        made("a-a+b", 5, "a -1 [1*0] [0+2] b [3+4]");
    }

    private static void almostTheSame() {
        made("a*b+b*a", 4, "a b [0*1] [1*0] [2+3]");
        made("(a+b)*(b+a)", 4, "a b [0+1] [1+0] [2*3]");
        made("(a+b)*(a*b)", 4, "a b [0+1] [0*1] [2*3]");
        made("a^2*a^3*a^2", 4, "a [0^2] [0^3] [1*2] [3*1]");
        made("a*a+a^2", 3, "a [0*0] [0^2] [1+2]");
        made("2*a+1/2*a", 5, "2 a [0*1] 1/2 [3*1] [2+4]");
        made("2*a-2*a", 5, "2 a [0*1] -1 [3*2] [2+4]");
        made("2/3*a+3/2*a", 5, "2/3 a [0*1] 3/2 [3*1] [2+4]");
        made("a+b+(a+b)", 3, "a b [0+1] [2+2]");
        // An exponent 3 is not part 3, which c is here.
        made("a*b+c*c+c^3", 7, "a b [0*1] c [3*3] [2+4] [3^3] [5+6]");
        made("a*b+(c+c)+c^3", 7, "a b [0*1] c [3+3] [2+4] [3^3] [5+6]");
        made("a*b+c^3+c*c", 7, "a b [0*1] c [3^3] [2+4] [3*3] [5+6]");
    }

    private static void orderOfOperators() {
        made("a+b*c^2", 5, "a b c [2^2] [1*3] [0+4]");
        made("a^2*b+c", 5, "a [0^2] b [1*2] c [3+4]");
        made("a-b*-c", 7, "a b c -1 [3*2] [1*4] [3*5] [0+6]");
        made("a+b-c", 6, "a b [0+1] c -1 [4*3] [2+5]");
        made("a-b+c", 6, "a b -1 [2*1] [0+3] c [4+5]");
        made("a-(b-c)", 7, "a b c -1 [3*2] [1+4] [3*5] [0+6]");
        made("(a-b)*c", 6, "a b -1 [2*1] [0+3] c [4*5]");
        made("a*(b+c)^2", 5, "a b c [1+2] [3^2] [0*4]");
        made("-(-a)", 3, "a -1 [1*0] [1*2]");
        made("(a)", 0, "a");
        made("(((a)))^2", 1, "a [0^2]");
    }

    private static void namesMakeNoPart() {
        GradientDesk desk = new GradientDesk();
        Check.due("A", Check.define(desk, "a+b", 0), 2);
        Check.due("H is A", Check.define(desk, "A", 7), 2);
        Check.due("no part more", desk.made(), 3);
        Check.due("A of A", Check.define(desk, "A^1*1+0*A", 0), 2);
        Check.due("1 and 0 more", desk.made(), 5);
        Check.due("A is another one", Check.define(desk, "A*H", 0), 5);
        Check.due("H is what it was", Check.define(desk, "H", 6), 2);
        Check.due("B is not there", Check.define(desk, "A+B", 6), GradientDesk.UNKNOWN);
        Check.due("G is what it was", Check.define(desk, "G", 1), 2);
        Check.due("B is there", Check.define(desk, "A+B", 6), 6);
        Check.due("C is not there", Check.define(desk, "C^0", 6), GradientDesk.UNKNOWN);
    }

    private static void twoHundredParts() {
        GradientDesk desk = new GradientDesk();
        Check.fill(desk, 199);
        Check.due("the 200th part", Check.define(desk, "a*b", 0), 199);
        Check.due("made()", desk.made(), 200);
        Check.due("part 199", desk.part(199, 0), 3);
        Check.dueThrow("part 200", () -> desk.part(200, 0), Check.OUT_OF_BOUNDS);
        String[] oneMore = {"c", "7", "1", "a+a", "b*a", "a^2", "-1", "a^0", "a-b", "0", "A+1"};
        for (String text : oneMore) {
            Check.due("one too many: " + text, Check.define(desk, text, 1), GradientDesk.FULL);
            Check.due("made()", desk.made(), 200);
        }
        Check.dueThrow("B is not there", () -> desk.parts(1), Check.NO_SUCH_ELEMENT);
        Check.due("one too many", desk.derive(0, 0, 1), GradientDesk.FULL);
        desk.clear();
        Check.due("made()", desk.made(), 0);
        Check.due("room again", Check.define(desk, "c", 1), 0);
        Check.fill(desk, 200);
        Check.due("full again", Check.define(desk, "a*b", 0), GradientDesk.FULL);
    }

    private static void whatIsThereNeedsNoRoom() {
        GradientDesk desk = new GradientDesk();
        Check.due("some parts", Check.define(desk, "(a*b-1/2)^2*0+1", 0), 9);
        Check.fill(desk, 200);
        String[] there = {"a", "a*b", "-1", "1/2", "a*b-1/2", "(a*b-1/2)^2", "2/4", "0", "1", "a*0", "1*b", "a+0", "b^1", "b^0",
            "1*1", "0*0", "-0", "1-1", "0-1", "1/2+1/2-1", "a^1*0", "A", "H"};
        for (String text : there) {
            int part = Check.define(desk, text, 1);
            Check.due("there is a part: " + text, part >= 0 && part < 200 ? 1 : 0, 1);
        }
        Check.due("the last part", Check.define(desk, "H", 1), 199);
        Check.due("derivative of A", desk.derive(0, 0, 1), Check.define(desk, "0", 2));
        Check.due("derivative of a", derivativeOfA(desk), Check.define(desk, "1", 2));
        Check.due("made()", desk.made(), 200);
    }

    private static int derivativeOfA(GradientDesk desk) {
        Check.define(desk, "a", 3);
        return desk.derive(3, 0, 3);
    }
}
