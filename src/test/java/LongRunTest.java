import java.util.Random;
import java.util.function.LongSupplier;

/** Runs of 512 calls on one object, which is as many as it is used for. */
public final class LongRunTest {
    private static final int CALLS = 512;
    private static final int RUNS = 60;

    private final GradientDesk desk = new GradientDesk();
    private final Model model = new Model();
    private final Random random;
    private final String title;
    private int calls;

    private LongRunTest(String title, int seed) {
        this.title = title + " " + seed;
        this.random = new Random(seed);
    }

    public static void main(String[] args) {
        fullFromCall401On();
        squaresUntilRefused();
        doublesAllTheTime();
        derivesUntilNothingIsLeft();
        typesWithoutRoom();
        clearsAgainAndAgain();
        int runs = args.length > 0 ? Integer.parseInt(args[0]) : RUNS;
        for (int seed = 0; seed < runs; seed++) {
            new LongRunTest("long text", seed).longTexts();
            new LongRunTest("full shelf", seed).fullShelf();
            new LongRunTest("long numbers", seed).longNumbers();
            new LongRunTest("long results", seed).longResults();
            new LongRunTest("long writings", seed).longWritings();
        }
        Check.end();
    }

    // Runs whose answers follow from the document by hand.

    private static void fullFromCall401On() {
        GradientDesk desk = new GradientDesk();
        desk.type('b', 1);
        desk.define(0);
        for (int k = 1; k <= 199; k++) {
            Check.due("type", desk.type('A' | '+' << 8 | 'b' << 16, 3), 3);
            Check.due("define", desk.define(0), k);
        }
        for (int k = 400; k < 508; k += 2) {
            Check.due("type", desk.type('A' | '+' << 8 | 'b' << 16, 3), 3);
            Check.due("define", desk.define(0), GradientDesk.FULL);
        }
        Check.due("made", desk.made(), 200);
        Check.due("parts", desk.parts(0), 200);
        desk.gradient(0);
        Check.due("result 2 is 200", desk.word(2, 0, 0), 200);
    }

    private static void squaresUntilRefused() {
        GradientDesk desk = new GradientDesk();
        desk.type('3', 1);
        desk.define(0);
        desk.number(0, 0);
        for (int k = 0; k < 500; k++) {
            boolean done = desk.reckon(2, 0, 0, 0);
            Check.due("square " + k, done ? 1 : 0, k < 10 ? 1 : 0);
        }
        Check.due("3^1024", desk.bits(0, 0), 1624);
        Check.due("its lowest bit", desk.word(0, 0, 0) & 1, 1);
    }

    private static void doublesAllTheTime() {
        GradientDesk desk = new GradientDesk();
        desk.type('1', 1);
        desk.define(0);
        desk.number(0, 0);
        for (int k = 0; k < 506; k++) {
            Check.due("doubled", desk.reckon(0, 0, 0, 0) ? 1 : 0, 1);
        }
        Check.due("2^506", desk.bits(0, 0), 507);
        Check.due("its highest word", desk.word(0, 0, 15), 1 << 26);
        Check.due("the word below", desk.word(0, 0, 14), 0);
    }

    private static void derivesUntilNothingIsLeft() {
        GradientDesk desk = new GradientDesk();
        Check.define(desk, "a^8", 0);
        for (int k = 0; k < 504; k++) {
            Check.due("derivative " + k, desk.derive(0, 0, 0) >= 0 ? 1 : 0, 1);
        }
        Check.due("0 at last", desk.write(0), 1);
        Check.due("0 at last", desk.written(0), '0');
        Check.due("one part", desk.parts(0), 1);
    }

    private static void typesWithoutRoom() {
        GradientDesk desk = new GradientDesk();
        for (int k = 1; k <= 510; k++) {
            String due = k <= 64 ? Integer.toString(k) : Check.ILLEGAL_STATE;
            Check.due("type " + k, Check.answer(() -> desk.type('-', 1)), due);
        }
        Check.due("define", desk.define(0), GradientDesk.SYNTAX);
        Check.due("place", desk.place(), 64);
    }

    private static void clearsAgainAndAgain() {
        GradientDesk desk = new GradientDesk();
        for (int k = 0; k < 102; k++) {
            Check.due("type", desk.type('a' | '*' << 8 | 'b' << 16, 3), 3);
            Check.due("define", desk.define(k % 8), 2);
            Check.due("made", desk.made(), 3);
            desk.clear();
            Check.due("made behind clear()", desk.made(), 0);
        }
    }

    // Runs that keep to one edge, with each answer compared with the model's.

    private boolean goesOn() {
        return calls < CALLS;
    }

    private void same(String what, LongSupplier got, LongSupplier want) {
        if (goesOn()) {
            calls++;
            Check.due(title + ", call " + calls + ": " + what, Check.answer(got), Check.answer(want));
        }
    }

    private void type(String text) {
        for (int start = 0; start < text.length(); start += 8) {
            int n = Math.min(8, text.length() - start);
            long w = Check.packed(text, start, n);
            same("type " + text, () -> desk.type(w, n), () -> model.type(w, n));
        }
    }

    private void define(String text, int name) {
        type(text);
        same("define of " + text, () -> desk.define(name), () -> model.define(name));
        same("place", () -> desk.place(), () -> model.place);
    }

    private void derive(int of, int variable, int name) {
        same("derive", () -> desk.derive(of, variable, name), () -> model.derive(of, variable, name));
    }

    private void made() {
        same("made", () -> desk.made(), () -> model.nodes.size());
    }

    private void result(int r) {
        int which = random.nextInt(2);
        int i = random.nextInt(1 + model.bits(r, which) / 32);
        same("sign", () -> desk.sign(r), () -> model.sign(r));
        same("bits", () -> desk.bits(r, which), () -> model.bits(r, which));
        same("word", () -> desk.word(r, which, i), () -> model.word(r, which, i));
    }

    private String some(String... texts) {
        return texts[random.nextInt(texts.length)];
    }

    private void longTexts() {
        String characters = "abcAB01-(/+*^)";
        while (goesOn()) {
            int defineAt = 50 + random.nextInt(20);
            StringBuilder text = new StringBuilder();
            for (int k = 0; k < defineAt && goesOn(); k++) {
                text.append(random.nextInt(12) == 0 ? characters.charAt(random.nextInt(14)) : k % 2 == 0 ? 'b' : '+');
            }
            type(text.toString());
            same("define", () -> desk.define(0), () -> model.define(0));
            same("place", () -> desk.place(), () -> model.place);
        }
    }

    private void fullShelf() {
        for (int k = 0; k < 3; k++) {
            define(("a+b*" + some("a", "b", "c", "7") + "+").repeat(7) + "c", k);
        }
        while (goesOn()) {
            String letter = some("A", "B", "C", "a", "b", "7", "1/2");
            define(letter + some("+", "*", "-") + some("A+b", "B*c", "C-1", "a^2", "(b+c)^3", "-A", "a+b+c+a+b+c+a+b+c", "1"), random.nextInt(3));
            derive(random.nextInt(3), random.nextInt(3), random.nextInt(3));
            made();
            int name = random.nextInt(8);
            same("parts", () -> desk.parts(name), () -> model.parts(name));
            if (random.nextInt(25) == 0) {
                same("clear", () -> Check.none(desk::clear), () -> Check.none(model::clear));
            }
        }
    }

    private void longNumbers() {
        define(some("2", "1/2", "9999", "1/9999", "9998/9997", "-3/7"), 0);
        define("A*a", 1);
        while (goesOn()) {
            String text = some("A*A", "A^2", "A^3", "2*A", "A+A", "A+1/3", "1/2*A", "A-1");
            define(text, random.nextInt(4) == 0 ? 2 : 0);
            define(some("A*a", "A+a", "B*A", "B+A*b", "(A*a)^2", "B^2", "A*b*(a+B)", "a"), 1);
            derive(1, 0, 3);
            made();
            int what = random.nextInt(6);
            same("part", () -> desk.part(desk.made() - 1, what), () -> model.part(model.nodes.size() - 1, what));
            if (random.nextInt(12) == 0) {
                same("clear", () -> Check.none(desk::clear), () -> Check.none(model::clear));
                define(some("2", "1/2", "9999/9998"), 0);
            }
        }
    }

    private void longResults() {
        define("a*b+" + some("1/2", "9999/9998", "7"), 0);
        same("set", () -> Check.none(() -> desk.set(0, 9998, 9997)), () -> Check.none(() -> model.set(0, 9998, 9997)));
        same("set", () -> Check.none(() -> desk.set(1, -1, 9999)), () -> Check.none(() -> model.set(1, -1, 9999)));
        while (goesOn()) {
            if (random.nextInt(20) == 0) {
                same("gradient", () -> Check.none(() -> desk.gradient(0)), () -> Check.none(() -> model.gradient(0)));
            }
            int what = random.nextInt(4) == 0 ? random.nextInt(2) : 2;
            int r = random.nextInt(4);
            int i = random.nextInt(4);
            int j = random.nextInt(4);
            same("reckon", () -> desk.reckon(what, r, i, j) ? 1 : 0, () -> model.reckon(what, r, i, j) ? 1 : 0);
            result(r);
            same("compare", () -> desk.compare(r, j), () -> model.compare(r, j));
        }
    }

    private void longWritings() {
        define(some("a", "b+c", "7/9"), 0);
        while (goesOn()) {
            define(some("A+A", "A+b", "A*c", "A^2", "A-9999/9998", "a", "A+1234", "A*1"), 0);
            same("write", () -> desk.write(0), () -> model.write(0));
            int size = model.lastWritten.length();
            int i = random.nextInt(size + 1);
            same("written", () -> desk.written(i), () -> model.written(i));
            same("written", () -> desk.written(size - 1), () -> model.written(size - 1));
        }
    }
}
