/** Promises 1, 2 and 4: a new object, type and place. */
public final class TextTest {
    public static void main(String[] args) {
        newObject();
        typeCounts();
        typeRefuses();
        placeOfFaults();
        placeStays();
        placeOfNumbers();
        Check.end();
    }

    private static void newObject() {
        GradientDesk desk = new GradientDesk();
        Check.due("new: made()", desk.made(), 0);
        Check.due("new: place()", desk.place(), -1);
        for (int k = 0; k < 8; k++) {
            int name = k;
            Check.dueThrow("new: parts(" + k + ")", () -> desk.parts(name), Check.NO_SUCH_ELEMENT);
            Check.due("new: result " + k, Check.result(desk, k), "0/1");
        }
        Check.dueThrow("new: part(0, 0)", () -> desk.part(0, 0), Check.OUT_OF_BOUNDS);
        Check.dueThrow("new: written(0)", () -> desk.written(0), Check.OUT_OF_BOUNDS);
        Check.due("new: define", desk.define(0), GradientDesk.SYNTAX);
        Check.due("new: place of the empty text", desk.place(), 0);
        Check.due("new: first type", desk.type('a', 1), 1);
        desk.define(0);
        desk.gradient(0);
        Check.due("new: the point is 0", Check.result(desk, 0), "0/1");
        Check.due("two objects share nothing", new GradientDesk().made(), 0);
    }

    private static void typeCounts() {
        GradientDesk desk = new GradientDesk();
        Check.due("type 3", desk.type(Check.packed("a*b", 0, 3), 3), 3);
        Check.due("type 2 of more bytes", desk.type(0xff00_0000_0100_0000L | Check.packed("+c", 0, 2), 2), 5);
        desk.define(0);
        Check.due("lowest byte first", Check.written(desk, 0), "((a*b)+c)");
        Check.due("type behind define", desk.type(' ', 1), 1);
        Check.due("the last character that there is", desk.type(126, 1), 2);
        Check.due("type 8", desk.type(Check.packed("12345678", 0, 8), 8), 10);
    }

    private static void typeRefuses() {
        GradientDesk desk = new GradientDesk();
        int[] wrongCounts = {0, -1, 9, Integer.MIN_VALUE, Integer.MAX_VALUE};
        for (int n : wrongCounts) {
            Check.dueThrow("type n " + n, () -> desk.type(0x6161616161616161L, n), Check.ILLEGAL_ARGUMENT);
        }
        int[] wrongCharacters = {0, 31, 127, 128, 225, 255};
        for (int c : wrongCharacters) {
            Check.dueThrow("type " + c, () -> desk.type(c, 1), Check.ILLEGAL_ARGUMENT);
            Check.dueThrow("type " + c, () -> desk.type('a' | (long) c << 8, 2), Check.ILLEGAL_ARGUMENT);
            Check.dueThrow("type " + c, () -> desk.type(0x61616161616161L | (long) c << 56, 8), Check.ILLEGAL_ARGUMENT);
        }
        Check.due("what was refused is not there", desk.type('a', 1), 1);
        for (int k = 0; k < 7; k++) {
            desk.type(Check.packed("+b+b+b+b", 0, 8), 8);
        }
        Check.due("57 and 6", desk.type(Check.packed("+b+b*-", 0, 6), 6), 63);
        Check.dueThrow("63 and 2", () -> desk.type(0x2d2dL, 2), Check.ILLEGAL_STATE);
        Check.dueThrow("the wrong character first", () -> desk.type(0x1f2dL, 2), Check.ILLEGAL_ARGUMENT);
        Check.due("63 and 1", desk.type('b', 1), 64);
        Check.dueThrow("64 and 1", () -> desk.type('b', 1), Check.ILLEGAL_STATE);
        Check.dueThrow("64 and 0", () -> desk.type('b', 0), Check.ILLEGAL_ARGUMENT);
        Check.due("all 64 were there", desk.define(0), 34);
        Check.due("empty again", desk.type('b', 1), 1);
    }

    private static void place(String text, int due) {
        GradientDesk desk = new GradientDesk();
        int answer = Check.define(desk, text, 0);
        if (due >= 0) {
            Check.due("define of " + text, answer, GradientDesk.SYNTAX);
        } else if (answer == GradientDesk.SYNTAX) {
            Check.due("define of " + text, "SYNTAX", "none");
        }
        Check.due("place in " + text, desk.place(), due);
    }

    private static void placeOfFaults() {
        String[] whole = {"a", "-a", "----a", "a--b", "a*-b", "a+-b^2", "(a)", "((a))^2*b", "(-a)", "a^0", "a^9",
            "1^2", "1/2^3", "-(a)-(b)", "a-b-c", "(a+b)*(a-b)"};
        for (String text : whole) {
            place(text, -1);
        }
        String[] moreDue = {"", "-", "(", "((", "a+", "a-", "a*", "a^", "(a", "(a+b", "((a)", "(1/2", "a*(", "(a^2", "a+-"};
        for (String text : moreDue) {
            place(text, text.length());
        }
        String[] wrongAtEnd = {"+", "*", "^", ")", "/", "d", "I", " ", "~", "()", "(+", "a)", "ab", "aA", "Aa", "a1", "a(",
            "1a", "1(", "(a)b", "(a)(", "a/", "(a)/", "a^a", "a^-", "a^(", "a^2^", "a^22", "a^2a", "a^2(", "a++", "a+*",
            "a**", "a-)", "(a))", "(a+)", "-)", "--^", "2^3/", "a.", "(a]", "Z"};
        for (String text : wrongAtEnd) {
            place(text, text.length() - 1);
            place(text + "+b", text.length() - 1);
        }
        place("(".repeat(64), 64);
        place("-".repeat(64), 64);
        place("-".repeat(63) + "+", 63);
        place("(".repeat(31) + "a" + ")".repeat(31), -1);
        place("(".repeat(31) + "a" + ")".repeat(32), 63);
        place("a+*b", 2);
    }

    private static void placeOfNumbers() {
        String[] whole = {"0", "0000", "9999", "0/1", "1/9999", "0007/0001", "1/10", "1/1000", "3/0100", "3/0010"};
        for (String text : whole) {
            place(text, -1);
        }
        String[] moreDue = {"1/", "1/0", "1/00", "1/000", "9999/", "-1/000"};
        for (String text : moreDue) {
            place(text, text.length());
        }
        String[] wrongAtEnd = {"12345", "00000", "1/0000", "1/00001", "1/12345", "1//", "1/a", "1/-", "1/2/", "1/0+", "1/00*",
            "1/000)", "(1/0)", "1/0^", "1/2a", "1/0000"};
        for (String text : wrongAtEnd) {
            place(text, text.equals("1/00001") ? 5 : text.length() - 1);
        }
    }

    private static void placeStays() {
        GradientDesk desk = new GradientDesk();
        Check.define(desk, "a", 0);
        Check.define(desk, "a+)", 1);
        Check.due("place", desk.place(), 2);
        desk.type('b', 1);
        desk.derive(0, 0, 1);
        desk.gradient(0);
        desk.write(0);
        desk.clear();
        Check.dueThrow("define(8)", () -> desk.define(8), Check.ILLEGAL_ARGUMENT);
        Check.due("place behind other calls, and a define that threw", desk.place(), 2);
        desk.define(0);
        Check.due("place behind a part", desk.place(), -1);
        Check.define(desk, "a+", 1);
        Check.define(desk, "H", 1);
        Check.due("place behind UNKNOWN", desk.place(), -1);
        Check.define(desk, "a+", 1);
        Check.define(desk, "a^9", 1);
        Check.due("place behind LARGE", desk.place(), -1);
    }
}
