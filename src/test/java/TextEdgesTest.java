/** The edges of THE TEXT and its grammar: each character at each place, and how long a text can be. */
public final class TextEdgesTest {
    private static final String DIGITS = "0123456789";
    private static final String FACTOR = "-(abcABCDEFGH" + DIGITS;

    public static void main(String[] args) {
        everyCharacterAtEachPlace();
        numbersHaveFourDigits();
        lowerDigitsAreNotAllZero();
        emptyText();
        textOf64();
        textIsFull();
        eightCharactersAtMost();
        charactersFrom32To126();
        onlyTheCharactersThatCount();
        placeOfTheLatestDefine();
        Check.end();
    }

    /** Where a text leaves the grammar, on a desk where all names are there. */
    private static int place(String text) {
        GradientDesk desk = new GradientDesk();
        for (int name = 0; name < 8; name++) {
            Check.define(desk, "a", name);
        }
        boolean syntax = Check.define(desk, text, 0) == GradientDesk.SYNTAX;
        Check.due("place is there just for SYNTAX, in " + text, desk.place() >= 0 ? 1 : 0, syntax ? 1 : 0);
        return desk.place();
    }

    /** Behind a start just these characters can be there. */
    private static void next(String start, String can) {
        for (char c = 32; c <= 126; c++) {
            boolean refused = place(start + c) == start.length();
            Check.due("'" + c + "' can't be there behind " + start, refused ? 1 : 0, can.indexOf(c) < 0 ? 1 : 0);
        }
    }

    private static void everyCharacterAtEachPlace() {
        String[] factorDue = {"", "-", "--", "(", "((", "(-", "a+", "a-", "a*", "a+-", "a*-", "(a+", "(a)*", "a^2+", "1-", "1/2*"};
        for (String start : factorDue) {
            next(start, FACTOR);
        }
        String[] atomEnded = {"a", "c", "A", "H", "-b", "a+b", "a*b", "(a)", "((a))", "(a^2)", "a^2+b", "1*c"};
        for (String start : atomEnded) {
            next(start, "+-*^");
            next("(" + start, "+-*^)");
        }
        String[] powerEnded = {"a^0", "a^9", "A^1", "(a)^2", "1^3", "1/2^3", "-a^2", "a^2*b^3"};
        for (String start : powerEnded) {
            next(start, "+-*");
            next("(" + start, "+-*)");
        }
        next("a^", DIGITS);
        next("12^", DIGITS);
        next("(a)^", DIGITS);
        next("((a)", "+-*^)");
    }

    private static void numbersHaveFourDigits() {
        String[] more = {"0", "9", "12", "000", "999"};
        for (String start : more) {
            next(start, DIGITS + "/+-*^");
            next("(" + start, DIGITS + "/+-*^)");
        }
        next("1234", "/+-*^");
        next("0000", "/+-*^");
        next("(9999", "/+-*^)");
        String[] moreBelow = {"1/1", "1/9", "1/01", "1/10", "1/001", "1/100", "1234/999"};
        for (String start : moreBelow) {
            next(start, DIGITS + "+-*^");
            next("(" + start, DIGITS + "+-*^)");
        }
        String[] fourBelow = {"1/1234", "1/0001", "1/1000", "0/0100", "1234/0010"};
        for (String start : fourBelow) {
            next(start, "+-*^");
            next("(" + start, "+-*^)");
        }
    }

    private static void lowerDigitsAreNotAllZero() {
        String[] zeros = {"1/", "1/0", "1/00", "(0/00", "1234/"};
        for (String start : zeros) {
            next(start, DIGITS);
            Check.due("more must come behind " + start, place(start), start.length());
        }
        next("1/000", "123456789");
        next("(a*1234/000", "123456789");
        Check.due("more must come behind 1/000", place("1/000"), 5);
        Check.due("a fourth 0", place("1/0000"), 5);
        Check.due("a fourth 0 and more", place("1/00001"), 5);
        Check.due("a fourth digit", place("1/0001"), -1);
        Check.due("0 above", place("0000/1"), -1);
        GradientDesk desk = new GradientDesk();
        Check.define(desk, "0008/0006", 0);
        Check.due("digits 0 before others", Check.written(desk, 0), "4/3");
    }

    private static void emptyText() {
        GradientDesk desk = new GradientDesk();
        Check.due("define of no text", desk.define(0), GradientDesk.SYNTAX);
        Check.due("its place", desk.place(), 0);
        Check.due("define of one character", Check.define(desk, "a", 0), 0);
        Check.due("its place", desk.place(), -1);
        Check.due("define() has emptied the text", desk.define(1), GradientDesk.SYNTAX);
        Check.due("its place", desk.place(), 0);
        Check.due("made()", desk.made(), 1);
        Check.dueThrow("B is not there", () -> desk.parts(1), Check.NO_SUCH_ELEMENT);
        Check.due("A is there", desk.parts(0), 1);
    }

    private static void textOf64() {
        Check.due("64 characters", place("(".repeat(31) + "-a" + ")".repeat(31)), -1);
        Check.due("64 characters, the last can't be there", place("-".repeat(62) + "ab"), 63);
        Check.due("64 characters, and more must come", place("-".repeat(64)), 64);
        Check.due("64 characters, and a bracket must come", place("(" + "-".repeat(62) + "a"), 64);
        Check.due("64 characters, the first can't be there", place(")" + "a".repeat(63)), 0);
        Check.due("brackets that no text has room to close", place("(".repeat(40)), 40);
        GradientDesk desk = new GradientDesk();
        Check.due("64 characters of a sum", Check.define(desk, "a+b" + "+a+b".repeat(15) + "+", 0), GradientDesk.SYNTAX);
        Check.due("its place", desk.place(), 64);
        Check.due("64 characters that are a sum", Check.define(desk, "---a" + "+b+a".repeat(15), 0), 35);
    }

    private static void full(int n, int more) {
        GradientDesk desk = new GradientDesk();
        Check.type(desk, "-".repeat(n));
        String what = more + " characters behind " + n;
        long w = Check.packed("--------", 0, 8);
        if (n + more <= 64) {
            Check.due(what, desk.type(w, more), n + more);
            Check.due("all are there", more(desk), n + more);
        } else {
            Check.dueThrow(what, () -> desk.type(w, more), Check.ILLEGAL_STATE);
            Check.due("none is there", more(desk), n);
        }
    }

    /** How many minuses the text had. */
    private static int more(GradientDesk desk) {
        desk.define(0);
        return desk.place();
    }

    private static void textIsFull() {
        for (int n = 55; n <= 64; n++) {
            for (int more = 1; more <= 8; more++) {
                full(n, more);
            }
        }
        GradientDesk desk = new GradientDesk();
        Check.type(desk, "-".repeat(64));
        Check.dueThrow("no room", () -> desk.type('a', 1), Check.ILLEGAL_STATE);
        Check.dueThrow("no room, and a wrong character", () -> desk.type(31, 1), Check.ILLEGAL_ARGUMENT);
        Check.dueThrow("no room, and a wrong number", () -> desk.type('a', 9), Check.ILLEGAL_ARGUMENT);
        Check.dueThrow("no room, and no character", () -> desk.type('a', 0), Check.ILLEGAL_ARGUMENT);
        desk.clear();
        Check.dueThrow("clear() makes no room", () -> desk.type('a', 1), Check.ILLEGAL_STATE);
        Check.due("define() of 64", desk.define(0), GradientDesk.SYNTAX);
        Check.due("define() makes room", desk.type('a', 1), 1);
    }

    private static void eightCharactersAtMost() {
        for (int k = 1; k <= 8; k++) {
            GradientDesk desk = new GradientDesk();
            int n = k;
            Check.due("n = " + n, desk.type(0x2d2d2d2d2d2d2d2dL, n), n);
            Check.due("so many", more(desk), n);
        }
        int[] wrong = {0, 9, -1, -8, 16, 256, 257, Integer.MIN_VALUE, Integer.MAX_VALUE};
        for (int n : wrong) {
            GradientDesk desk = new GradientDesk();
            Check.dueThrow("n = " + n, () -> desk.type(0x2d2d2d2d2d2d2d2dL, n), Check.ILLEGAL_ARGUMENT);
            Check.due("none", more(desk), 0);
        }
    }

    private static void charactersFrom32To126() {
        for (int c = 0; c < 256; c++) {
            for (int at = 0; at < 8; at++) {
                character(c, at);
            }
        }
    }

    private static void character(int c, int at) {
        GradientDesk desk = new GradientDesk();
        long w = 0x2d2d2d2d2d2d2d2dL & ~(255L << 8 * at) | (long) c << 8 * at;
        boolean good = c >= 32 && c <= 126;
        Check.due("character " + c + " at " + at, Check.answer(() -> desk.type(w, 8)), good ? "8" : Check.ILLEGAL_ARGUMENT);
        Check.due("all of them or none", desk.type('-', 1), good ? 9 : 1);
    }

    private static void onlyTheCharactersThatCount() {
        long[] beyond = {0, -1, 0x1f1f1f1f1f1f1f1fL, 0x8080808080808080L};
        for (long other : beyond) {
            for (int k = 1; k < 8; k++) {
                GradientDesk desk = new GradientDesk();
                int n = k;
                long w = 0x2d2d2d2d2d2d2d2dL & ~(-1L << 8 * n) | other << 8 * n;
                Check.due(n + " of " + w, Check.answer(() -> desk.type(w, n)), Integer.toString(n));
                Check.due("so many", more(desk), n);
            }
        }
    }

    private static void placeOfTheLatestDefine() {
        GradientDesk desk = new GradientDesk();
        Check.due("no define() yet", desk.place(), -1);
        Check.type(desk, "a+b+");
        Check.due("a text alone", desk.place(), -1);
        Check.dueThrow("define(-1)", () -> desk.define(-1), Check.ILLEGAL_ARGUMENT);
        Check.due("a define() that threw, before any other", desk.place(), -1);
        Check.due("define", desk.define(0), GradientDesk.SYNTAX);
        Check.due("four, and more must come", desk.place(), 4);
        Check.due("told again", desk.place(), 4);
        desk.type('a', 1);
        Check.dueThrow("define(8)", () -> desk.define(8), Check.ILLEGAL_ARGUMENT);
        Check.due("a define() that threw", desk.place(), 4);
        desk.clear();
        Check.due("clear()", desk.place(), 4);
        Check.due("define", desk.define(0), 0);
        Check.due("a part", desk.place(), -1);
        Check.define(desk, "a+)", 0);
        Check.due("a wrong one", desk.place(), 2);
        Check.define(desk, "H", 0);
        Check.due("UNKNOWN", desk.place(), -1);
        Check.define(desk, "(", 0);
        Check.due("another one", desk.place(), 1);
        desk.derive(0, 0, 1);
        Check.due("derive() is no define()", desk.place(), 1);
        Check.define(desk, "a^9", 0);
        Check.due("LARGE", desk.place(), -1);
        Check.define(desk, "a*", 0);
        Check.fill(desk, 200);
        Check.define(desk, "a*", 0);
        Check.due("before FULL", desk.place(), 2);
        Check.define(desk, "a*b", 0);
        Check.due("FULL", desk.place(), -1);
    }
}
