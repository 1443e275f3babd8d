/** WHAT CAN'T BE MADE: which limit counts, and that all that the call made is taken back. */
public final class TakenBackTest {
    public static void main(String[] args) {
        needsSoManyParts();
        derivativeNeedsSoManyParts();
        derivativeWhoseNumbersAreThere();
        largeGoesBeforeFull();
        theFirstPartCounts();
        derivativeOfBothLimits();
        nothingElseChanges();
        whatWasTakenBackIsNotThere();
        Check.end();
    }

    /** a, b, c and D = a^3*b, a text that is not whole, and all parts but so many. */
    private static GradientDesk withRoomFor(int left) {
        GradientDesk desk = new GradientDesk();
        desk.set(0, 2, 3);
        desk.set(1, 5, 1);
        Check.define(desk, "c", 2);
        Check.define(desk, "a^3*b", 3);
        desk.write(3);
        Check.fill(desk, 200 - left);
        return desk;
    }

    private static void needs(int count, String text) {
        for (int left = 0; left <= count + 1; left++) {
            GradientDesk desk = withRoomFor(left);
            int before = desk.made();
            int part = Check.define(desk, text, 3);
            boolean full = left < count;
            Check.due(text + " with room for " + left, part == GradientDesk.FULL ? 1 : 0, full ? 1 : 0);
            Check.due("made()", desk.made(), full ? before : before + count);
            Check.due("D", Check.written(desk, 3).equals("(a^3*b)") ? 1 : 0, full ? 1 : 0);
        }
    }

    private static void needsSoManyParts() {
        needs(0, "c");
        needs(1, "7");
        needs(1, "a+c");
        needs(1, "a*c");
        needs(1, "a^2");
        needs(1, "a^0");
        needs(2, "-c");
        needs(3, "a-c");
        needs(3, "2+3");
        needs(2, "1+1");
        needs(3, "a-0*7");
        needs(4, "a*c+7*c");
    }

    /** It makes 1, 3, a^2, 3*a^2, 0 and (3*a^2)*b. */
    private static void derivativeNeedsSoManyParts() {
        for (int left = 0; left <= 7; left++) {
            GradientDesk desk = withRoomFor(left);
            int part = desk.derive(3, 0, 3);
            boolean full = left < 6;
            Check.due("derivative with room for " + left, part, full ? GradientDesk.FULL : 205 - left);
            Check.due("made()", desk.made(), full ? 200 - left : 206 - left);
            Check.due("D", Check.written(desk, 3), full ? "(a^3*b)" : "((3*a^2)*b)");
        }
    }

    /** What is too many is the power, or the product behind it, and then nothing more is made. */
    private static void derivativeWhoseNumbersAreThere() {
        for (int left = 0; left <= 3; left++) {
            GradientDesk desk = new GradientDesk();
            Check.define(desk, "a^3+0*1*3", 0);
            Check.due("a^3", Check.written(desk, 0), "a^3");
            Check.fill(desk, 200 - left);
            Check.due("with room for " + left, desk.derive(0, 0, 1), left < 2 ? GradientDesk.FULL : 201 - left);
            Check.due("made()", desk.made(), left < 2 ? 200 - left : 202 - left);
        }
    }

    /** A part that is too large and one too many is too large. */
    private static void largeGoesBeforeFull() {
        GradientDesk desk = new GradientDesk();
        Check.define(desk, Check.power("2", 399), 0);
        Check.define(desk, Check.power("1/2", 399), 1);
        Check.define(desk, Check.power("2", 390) + "*a", 2);
        Check.define(desk, "a^8", 3);
        Check.define(desk, "3", 4);
        Check.fill(desk, 200);
        String[] large = {"A+A", "A*A", "A^2", "A*2", "B*B", "B*1/2", "B^2", "A+a", "a+A", "C+a", "C*2", "C^2", "C*C", "D*a", "D^2", "a^9",
            "D*D", "A*a"};
        for (String text : large) {
            Check.due("too large: " + text, Check.define(desk, text, 5), GradientDesk.LARGE);
        }
        String[] full = {"A-1", "A*1/2-1", "D+a", "a^7", "B*a", "E*B", "E*a", "D*2", "C-a", "2*D*a"};
        for (String text : full) {
            Check.due("too many: " + text, Check.define(desk, text, 5), GradientDesk.FULL);
        }
        Check.due("made()", desk.made(), 200);
    }

    private static void theFirstPartCounts() {
        GradientDesk desk = withRoomFor(0);
        Check.due("too many first", Check.define(desk, "a*c+a^9", 0), GradientDesk.FULL);
        Check.due("too large first", Check.define(desk, "a^9+a*c", 0), GradientDesk.LARGE);
        Check.due("too many first", Check.define(desk, "7*a^9", 0), GradientDesk.FULL);
        Check.due("too large first", Check.define(desk, "a^9*7", 0), GradientDesk.LARGE);
        Check.due("an unknown name goes before", Check.define(desk, "a^9*7*E", 0), GradientDesk.UNKNOWN);
        Check.due("and before too many", Check.define(desk, "a*c*E", 0), GradientDesk.UNKNOWN);
        Check.due("a text that is not in the grammar goes before all", Check.define(desk, "a^9*7*E)", 0), GradientDesk.SYNTAX);
        GradientDesk other = withRoomFor(1);
        Check.due("the second is too many", Check.define(other, "a*c*b*a^9", 0), GradientDesk.FULL);
        Check.due("the second is too large", Check.define(other, "a*c+a^9+b*c", 0), GradientDesk.LARGE);
        Check.due("there is room for one", Check.define(other, "a*c", 0), 199);
    }

    /** The derivative of A*a*(a+b) ends with a sum, for which there is no room, and which may be too large. */
    private static void derivativeOfBothLimits() {
        for (int bits = 199; bits <= 200; bits++) {
            for (int left = 0; left <= 2; left++) {
                GradientDesk desk = new GradientDesk();
                Check.define(desk, Check.power("1/2", bits), 0);
                Check.define(desk, "A*a*(a+b)", 1);
                Check.define(desk, "1+0+A*(a+b)", 2);
                Check.fill(desk, 200 - left);
                int due = bits == 200 ? GradientDesk.LARGE : left == 0 ? GradientDesk.FULL : 200 - left;
                Check.due("derivative with " + bits + " and room for " + left, desk.derive(1, 0, 3), due);
                Check.due("made()", desk.made(), due < 0 ? 200 - left : 201 - left);
            }
        }
    }

    private static void nothingElseChanges() {
        String[] refused = {"", "a+", "a^2*7+B", "a^2*7+a^9", "(a*b)^2*7-c^8*c", "7*a+5*b-a^5*c^4"};
        for (String text : refused) {
            State.stays("define of " + text, () -> afterDefine("b"), desk -> defineAndTell(desk, text));
        }
        for (int k = 0; k < 6; k++) {
            int left = k;
            State.stays("derive that is too many", () -> withRoomFor(left), desk -> desk.derive(3, 0, 3));
            State.stays("derive to another name", () -> withRoomFor(left), desk -> desk.derive(3, 0, 4));
        }
        State.stays("define that is too many", () -> full("a"), desk -> defineAndTell(desk, "2*3*a+b*c-4"));
    }

    private static GradientDesk afterDefine(String text) {
        GradientDesk desk = new GradientDesk();
        desk.set(2, -7, 9);
        Check.define(desk, "a*c-3/4", 0);
        desk.derive(0, 2, 3);
        desk.gradient(0);
        desk.write(0);
        Check.define(desk, text, 2);
        return desk;
    }

    private static GradientDesk full(String text) {
        GradientDesk desk = withRoomFor(4);
        Check.define(desk, text, 0);
        return desk;
    }

    /** What place() tells is of the latest define(), so it is told here and made -1 again. */
    private static void defineAndTell(GradientDesk desk, String text) {
        int answer = Check.define(desk, text, 0);
        Check.due("refused: " + text, answer < 0 ? 1 : 0, 1);
        if (answer == GradientDesk.SYNTAX) {
            Check.due("place in " + text, desk.place(), text.length());
            Check.define(desk, "A", 0);
        }
        Check.due("place", desk.place(), -1);
    }

    private static void whatWasTakenBackIsNotThere() {
        GradientDesk desk = new GradientDesk();
        Check.define(desk, "a", 0);
        Check.due("too large", Check.define(desk, "b*7+c^2+a^9", 0), GradientDesk.LARGE);
        Check.due("made()", desk.made(), 1);
        Check.dueThrow("part 1", () -> desk.part(1, 0), Check.OUT_OF_BOUNDS);
        Check.dueThrow("number of part 1", () -> desk.number(1, 0) ? 1 : 0, Check.OUT_OF_BOUNDS);
        Check.due("c", Check.define(desk, "c", 1), 1);
        Check.due("7", Check.define(desk, "7", 1), 2);
        Check.due("b", Check.define(desk, "b", 1), 3);
        Check.due("b*7", Check.define(desk, "b*7", 1), 4);
        Check.due("parts", Check.shelf(desk), "a c 7 b [3*2]");
        GradientDesk other = withRoomFor(5);
        other.derive(3, 0, 3);
        Check.due("0", Check.define(other, "0", 1), 195);
        Check.due("1", Check.define(other, "1", 1), 196);
        Check.due("a^2", Check.define(other, "a^2", 1), 197);
        other.clear();
        Check.due("parts of clear() are not there", Check.define(other, "b", 1), 0);
        Check.due("nor their sums", Check.define(other, "b+a", 1), 2);
    }
}
