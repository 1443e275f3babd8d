/** The edges of DEGREE and SIZES: 8 and 9, 400 and 401, for each sort of part and for NUMBERS. */
public final class SizeEdgesTest {
    public static void main(String[] args) {
        sizesOfNumbersAndVariables();
        degrees();
        upperSizeOfSums();
        lowerSizeOfSums();
        sizesOfProducts();
        sizesOfPowers();
        numbersThatComeOfSums();
        numbersThatComeOfProducts();
        numbersThatComeOfPowers();
        lowerPartOfNumbers();
        whatIsSimplerPassesNoLimit();
        derivatives();
        Check.end();
    }

    /** All texts but the last become A, B and so on; answers the desk. */
    private static GradientDesk prepare(String... texts) {
        GradientDesk desk = new GradientDesk();
        for (int name = 0; name < texts.length - 1; name++) {
            int part = Check.define(desk, texts[name], name);
            Check.due("a part: " + texts[name], part >= 0 ? 1 : 0, 1);
        }
        return desk;
    }

    /** The last text is a part with this DEGREE and these SIZES. */
    private static void fits(int degree, int n, int d, String... texts) {
        GradientDesk desk = prepare(texts);
        String text = texts[texts.length - 1];
        int part = Check.define(desk, text, 7);
        Check.due("a part: " + text, part >= 0 ? 1 : 0, 1);
        if (part >= 0) {
            Check.due("DEGREE of " + text, desk.part(part, 3), degree);
            Check.due("n of " + text, desk.part(part, 4), n);
            Check.due("d of " + text, desk.part(part, 5), d);
        }
    }

    /** The last text passes a limit, and nothing of it stays. */
    private static void large(String... texts) {
        GradientDesk desk = prepare(texts);
        String text = texts[texts.length - 1];
        String before = Check.shelf(desk);
        Check.due("too large: " + text, Check.define(desk, text, 7), GradientDesk.LARGE);
        Check.due("parts behind " + text, Check.shelf(desk), before);
        Check.dueThrow("H behind " + text, () -> desk.parts(7), Check.NO_SUCH_ELEMENT);
    }

    private static String two(int n) {
        return Check.power("2", n);
    }

    private static String half(int n) {
        return Check.power("1/2", n);
    }

    private static void sizesOfNumbersAndVariables() {
        fits(0, 1, 0, "0");
        fits(0, 1, 0, "1");
        fits(0, 1, 0, "-1");
        fits(0, 2, 0, "2");
        fits(0, 2, 0, "-3");
        fits(0, 3, 0, "4");
        fits(0, 1, 2, "1/2");
        fits(0, 1, 2, "-1/3");
        fits(0, 1, 3, "1/4");
        fits(0, 14, 0, "9999");
        fits(0, 14, 14, "9998/9999");
        fits(0, 1, 0, "9999/9999");
        fits(1, 1, 0, "a");
        fits(1, 1, 0, "b");
        fits(1, 1, 0, "c");
    }

    private static void degrees() {
        fits(8, 72, 0, "a^8");
        large("a^9");
        fits(8, 2 * (4 * 9 + 8), 0, "(a^4)^2");
        large("(a^3)^3");
        fits(8, 4 * (10 + 8), 0, "(a*b)^4");
        large("(a*b)^5");
        fits(8, 36 + 36 + 8, 0, "a^4*b^4");
        large("a^4*b^5");
        large("a^5*b^4");
        fits(8, 63 + 1 + 8, 0, "a^7*b");
        fits(8, 63 + 1 + 8, 0, "b*a^7");
        large("a^8*b");
        large("b*a^8");
        fits(8, 73, 0, "a^8+b");
        fits(8, 73, 0, "b+a^8");
        fits(8, 73, 0, "a^8+b^8");
        fits(8, 72 + 2 + 8, 0, "2*a^8");
        large("(a^8+1)*c");
        large("(a^8)^2");
        fits(8, 72, 0, "(a^8)^1");
        fits(0, 1, 0, "(a^8)^0");
        large("(a-a)*b^8");
    }

    private static void upperSizeOfSums() {
        fits(1, 400, 0, two(398), "A+a");
        large(two(399), "A+a");
        fits(1, 400, 0, two(398), "a+A");
        large(two(399), "a+A");
        fits(1, 400, 0, two(389), "A*a+b");
        fits(1, 400, 0, two(389), "b+A*a");
        large(two(390), "A*a+b");
        large(two(390), "b+A*a");
        // n counts what the other one's d adds to it: 300 bits and 99 of the other's d.
        fits(1, 1 + 300 + 99, 99, two(299), half(98), "A+B*a");
        large(two(299), half(99), "A+B*a");
        large(two(300), half(98), "A+B*a");
        fits(1, 1 + 300 + 99, 99, two(299), half(98), "B*a+A");
        large(two(299), half(99), "B*a+A");
        large(two(300), half(98), "B*a+A");
        // The lesser of both sums does not matter.
        fits(1, 1 + 10 + 150, 250, half(99) + "*513", half(149), "A+B*a");
        fits(1, 1 + 10 + 150, 250, half(99) + "*513", half(149), "B*a+A");
    }

    private static void lowerSizeOfSums() {
        fits(1, 1 + 10 + 200, 400, half(199), "A*a+A*b");
        large(half(199), half(200), "A*a+B*b");
        large(half(199), half(200), "B*a+A*b");
        fits(1, 1 + 10 + 300, 400, half(299), half(99), "A*a+B*b");
        large(half(299), half(100), "A*a+B*b");
        large(half(300), half(99), "B*a+A*b");
    }

    private static void sizesOfProducts() {
        fits(1, 391 + 1 + 8, 0, two(390), "A*a");
        large(two(391), "A*a");
        fits(1, 391 + 1 + 8, 0, two(390), "a*A");
        large(two(391), "a*A");
        fits(2, 196 + 196 + 8, 0, two(186), "A*a*(A*b)");
        large(two(186), two(187), "A*a*(B*b)");
        large(two(186), two(187), "B*a*(A*b)");
        fits(1, 10, 400, half(399), "A*a");
        fits(2, 10 + 10 + 8, 400, half(199), "A*a*(A*b)");
        large(half(199), half(200), "A*a*(B*b)");
        large(half(199), half(200), "B*a*(A*b)");
        fits(1, 1 + 9 * 44, 0, "-".repeat(44) + "a");
        large("-".repeat(45) + "a");
    }

    private static void sizesOfPowers() {
        fits(2, 2 * (192 + 8), 0, two(182), "(A*a)^2");
        large(two(183), "(A*a)^2");
        fits(4, 4 * (92 + 8), 0, two(82), "(A*a)^4");
        large(two(83), "(A*a)^4");
        fits(8, 8 * (42 + 8), 0, two(32), "(A*a)^8");
        large(two(33), "(A*a)^8");
        fits(3, 3 * (125 + 8), 0, two(115), "(A*a)^3");
        large(two(116), "(A*a)^3");
        fits(2, 2 * (10 + 8), 400, half(199), "(A*a)^2");
        large(half(200), "(A*a)^2");
        fits(8, 8 * (10 + 8), 400, half(49), "(A*a)^8");
        large(half(50), "(A*a)^8");
    }

    private static void numbersThatComeOfSums() {
        fits(0, 400, 0, two(399), "A");
        fits(0, 400, 0, two(399), "A+(A-1)");
        large(two(399), "A+A");
        large(two(399), "A+(A-1)+1");
        fits(0, 400, 0, two(399), "-A-(A-1)");
        large(two(399), "-A-A");
        fits(0, 400, 0, two(399), "A-1+1");
        fits(0, 399, 0, two(399), "A-1");
        fits(0, 1, 0, two(399), "A-A");
        fits(0, 400, 2, two(398), "A+1/2");
        large(two(399), "A+1/2");
        fits(0, 400, 400, half(399), "1+A");
        large(half(399), "2+A");
    }

    private static void numbersThatComeOfProducts() {
        fits(0, 400, 0, two(200), two(199), "A*B");
        large(two(200), "A*A");
        fits(0, 400, 0, two(399), "-A");
        large(two(399), "2*A");
        large(two(399), "A*2");
        fits(0, 400, 0, two(399), "A*1");
        fits(0, 399, 0, two(399), "1/2*A");
        // What can be cancelled is, before it is measured.
        fits(0, 400, 0, two(399), "A*(2*1/2)");
        fits(0, 399, 2, two(399), "(A-1)*1/2");
        fits(0, 1, 0, two(399), half(399), "A*B");
        fits(0, 1, 0, two(399), "A*0");
    }

    private static void numbersThatComeOfPowers() {
        fits(0, 400, 0, two(133), "A^3");
        large(two(134), "A^3");
        fits(0, 400, 0, two(57), "A^7");
        large(two(50), "A^8");
        large(two(200), "A^2");
        large(two(399), "A^9");
        large(two(399), "A^2");
        fits(0, 400, 0, two(399), "A^1");
        fits(0, 1, 0, two(399), "A^0");
        large("9999^9", "A^4");
        fits(0, 399, 0, "9998^9", "A^3*2^9*2^9*2^9*2^9*2^4");
    }

    private static void lowerPartOfNumbers() {
        fits(0, 1, 400, half(399), "A");
        large(half(399), "A*1/2");
        large(half(399), "1/2*A");
        fits(0, 1, 400, half(200), half(199), "A*B");
        large(half(200), "A*A");
        fits(0, 1, 399, half(399), "A+A");
        fits(0, 399, 400, half(398), "A+1/3");
        large(half(399), "A+1/3");
        fits(0, 1, 400, half(133), "A^3");
        large(half(134), "A^3");
        large(half(200), "A^2");
        fits(0, 1, 400, half(399), "-A");
        fits(0, 1, 0, half(399), "A-A");
        fits(0, 399, 400, half(399), "1-A");
    }

    private static void whatIsSimplerPassesNoLimit() {
        fits(8, 72, 0, "a^8+0");
        fits(8, 72, 0, "1*a^8");
        fits(8, 72, 0, "a^8*1");
        fits(0, 1, 0, "a^8*0");
        fits(0, 1, 0, "0*a^8");
        fits(1, 400, 0, two(390), "A*a+0");
        fits(1, 400, 0, two(390), "1*(A*a)");
        fits(1, 400, 0, two(390), "(A*a)^1");
        fits(0, 1, 0, two(390), "(A*a)^0");
        fits(0, 1, 0, two(390), "A*a*0");
        // The 0 comes too late: from the left on a product is made before it.
        large(two(391), "A*a*0");
        large("a^5*b^4*0");
        large("0*(a^5*b^4)");
        large("(a^9)^0");
    }

    /** The derivative of A*a*(a+b) has the sum of A*(a+b) and A*a at the end. */
    private static void derivatives() {
        derivative(two(288) + "+1", half(99), 289 + 100 + 11, 200);
        derivative(two(289) + "+1", half(99), -1, -1);
        derivative(two(288) + "+1", half(100), -1, -1);
        derivative("3", half(199), 2 + 200 + 11, 400);
        derivative("3", half(200), -1, -1);
    }

    private static void derivative(String upper, String lower, int n, int d) {
        GradientDesk desk = prepare(upper, lower, "A*B", "C*a*(a+b)", "");
        String before = Check.shelf(desk);
        int part = desk.derive(3, 0, 7);
        if (n < 0) {
            Check.due("derivative too large", part, GradientDesk.LARGE);
            Check.due("parts behind it", Check.shelf(desk), before);
            Check.dueThrow("H behind it", () -> desk.parts(7), Check.NO_SUCH_ELEMENT);
        } else {
            Check.due("derivative", part, desk.made() - 1);
            Check.due("its DEGREE", desk.part(desk.made() - 1, 3), 1);
            Check.due("its n", desk.part(desk.made() - 1, 4), n);
            Check.due("its d", desk.part(desk.made() - 1, 5), d);
        }
        Check.due("by c", desk.part(desk.derive(3, 2, 6), 4), 1);
    }
}
