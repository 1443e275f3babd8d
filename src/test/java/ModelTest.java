import java.util.Random;

/** Long runs of calls, ordinary and wrong ones, on the desk and on the model of the document. */
public final class ModelTest {
    private static final int RUNS = 300;
    private static final int CALLS = 512;

    private final GradientDesk desk = new GradientDesk();
    private final Model model = new Model();
    private final Random random;
    private final int run;
    /** 0 and 1: small numbers; 2 and 3: long ones; 4: also long results; 5: long expressions. */
    private final int manner;

    private ModelTest(int run) {
        this.run = run;
        this.random = new Random(run);
        this.manner = run % 6;
    }

    public static void main(String[] args) {
        int runs = args.length > 0 ? Integer.parseInt(args[0]) : RUNS;
        for (int run = 0; run < runs; run++) {
            ModelTest test = new ModelTest(run);
            for (int call = 0; call < CALLS; call++) {
                test.step();
            }
            test.lookAtAll();
        }
        Check.end();
    }

    private void step() {
        if (manner == 4 && random.nextInt(3) == 0) {
            grow();
        } else if (manner == 5 && random.nextInt(3) == 0) {
            build();
        } else {
            call();
        }
        same("place()", () -> desk.place(), () -> model.place);
        same("made()", () -> desk.made(), () -> model.nodes.size());
    }

    /** Results get long only where they are multiplied, and added to one another, again and again. */
    private void grow() {
        int r = random.nextInt(8);
        int i = notZero();
        int j = notZero();
        if (model.results[i].p().signum() == 0) {
            gradient();
            return;
        }
        reckon(random.nextInt(4) == 0 ? random.nextInt(2) : 2, r, i, j);
        same("compare(" + r + ", " + j + ")", () -> desk.compare(r, j), () -> model.compare(r, j));
        same("compare(" + i + ", " + r + ")", () -> desk.compare(i, r), () -> model.compare(i, r));
    }

    private int notZero() {
        int r = random.nextInt(8);
        for (int k = 0; k < 8 && model.results[r].p().signum() == 0; k++) {
            r = (r + 1) % 8;
        }
        return r;
    }

    /** Expressions get long only where one name is built upon again and again. */
    private void build() {
        int name = random.nextInt(3);
        char letter = (char) ('A' + name);
        if (model.names[name] == null || random.nextInt(12) == 0) {
            enter("abc".charAt(name) + (random.nextBoolean() ? "" : "*" + random.nextInt(100)), name);
            return;
        }
        String[] more = {letter + "+" + letter, letter + "-" + atom(0), atom(0) + "*" + letter, letter + "^2",
            letter + "+" + atom(0), "-" + letter, letter + "*" + atom(0), atom(0) + "+" + letter};
        enter(more[random.nextInt(more.length)], name);
        write(name);
    }

    private void call() {
        switch (random.nextInt(22)) {
            case 0, 1, 2, 3, 4, 5 -> typeAndDefine();
            case 6 -> typeOdd();
            case 7, 8 -> derive();
            case 9 -> parts();
            case 10 -> part();
            case 11 -> number();
            case 12, 13 -> set();
            case 14 -> gradient();
            case 15 -> along();
            case 16, 17, 18 -> reckon(index(3), index(8), index(8), index(8));
            case 19 -> compare();
            case 20 -> write(name());
            default -> rare();
        }
    }

    private void rare() {
        if (random.nextInt(12) == 0) {
            desk.clear();
            model.clear();
        }
        int i = index(64);
        int r = index(8);
        int which = index(2);
        same("word", () -> desk.word(r, which, i), () -> model.word(r, which, i));
        same("bits", () -> desk.bits(r, which), () -> model.bits(r, which));
        same("sign", () -> desk.sign(r), () -> model.sign(r));
        int k = index(251);
        same("written", () -> desk.written(k), () -> model.written(k));
    }

    private void typeAndDefine() {
        String text = sum(random.nextInt(manner == 0 ? 3 : 4));
        if (random.nextInt(6) == 0) {
            text = damage(text);
        }
        if (text.length() > 64) {
            text = text.substring(0, random.nextInt(65));
        }
        enter(text, name());
    }

    private void enter(String text, int name) {
        int start = 0;
        while (start < text.length()) {
            int n = Math.min(1 + random.nextInt(8), text.length() - start);
            type(Check.packed(text, start, n) | (n < 8 ? random.nextLong() << 8 * n : 0), n);
            start += n;
        }
        same("define(" + name + ") of " + text, () -> desk.define(name), () -> model.define(name));
    }

    private void typeOdd() {
        String text = random.nextBoolean() ? sum(2) : "a+" + (char) random.nextInt(256);
        type(Check.packed(text, 0, Math.min(8, text.length())), random.nextInt(11) - 1);
    }

    private void type(long w, int n) {
        same("type(" + w + ", " + n + ")", () -> desk.type(w, n), () -> model.type(w, n));
    }

    private String damage(String text) {
        int at = random.nextInt(text.length() + 1);
        String some = "()^*/+-0019aAd.HI ~";
        char c = some.charAt(random.nextInt(some.length()));
        int to = random.nextBoolean() ? at : Math.min(text.length(), at + 1);
        return text.substring(0, at) + (random.nextInt(3) == 0 ? "" : c) + text.substring(to);
    }

    private String sum(int depth) {
        StringBuilder out = new StringBuilder(term(depth));
        while (random.nextInt(3) == 0) {
            out.append(random.nextBoolean() ? '+' : '-').append(term(depth));
        }
        return out.toString();
    }

    private String term(int depth) {
        StringBuilder out = new StringBuilder(factor(depth));
        while (random.nextInt(3) == 0) {
            out.append('*').append(factor(depth));
        }
        return out.toString();
    }

    private String factor(int depth) {
        String minus = random.nextInt(5) == 0 ? "-".repeat(1 + random.nextInt(3)) : "";
        String power = random.nextInt(4) == 0 ? "^" + random.nextInt(manner == 3 || manner == 4 ? 10 : 5) : "";
        return minus + atom(depth) + power;
    }

    private String atom(int depth) {
        int kind = random.nextInt(10);
        if (kind < 3 && depth > 0) {
            return "(" + sum(depth - 1) + ")";
        }
        if (kind < 6) {
            return "abc".substring(random.nextInt(3)).substring(0, 1);
        }
        if (kind < 8) {
            int n = random.nextInt(8);
            if (model.names[n] != null || random.nextInt(20) == 0) {
                return "ABCDEFGH".substring(n, n + 1);
            }
        }
        int most = manner < 2 || manner == 5 ? 6 : 10000;
        String number = Integer.toString(random.nextInt(most));
        int bottom = 1 + random.nextInt(most - 1);
        return random.nextInt(3) == 0 ? number + "/" + bottom : number;
    }

    private void derive() {
        int of = name();
        int variable = index(3);
        int name = name();
        same("derive(" + of + ", " + variable + ", " + name + ")",
                () -> desk.derive(of, variable, name), () -> model.derive(of, variable, name));
    }

    private void parts() {
        int name = name();
        same("parts(" + name + ")", () -> desk.parts(name), () -> model.parts(name));
    }

    private void part() {
        int i = index(Math.max(1, model.nodes.size()));
        int what = index(6);
        same("part(" + i + ", " + what + ")", () -> desk.part(i, what), () -> model.part(i, what));
    }

    private void number() {
        int i = index(Math.max(1, model.nodes.size()));
        int r = index(8);
        same("number(" + i + ", " + r + ")", () -> desk.number(i, r) ? 1 : 0, () -> model.number(i, r) ? 1 : 0);
        lookAtResult(r & 7);
    }

    private void set() {
        int variable = index(3);
        int most = random.nextBoolean() ? 10 : 9999;
        int p = random.nextInt(2 * most + 1) - most + (random.nextInt(20) == 0 ? 9999 : 0);
        int q = random.nextInt(30) == 0 ? random.nextInt(3) * 5000 : 1 + random.nextInt(most);
        same("set(" + variable + ", " + p + ", " + q + ")",
                () -> Check.none(() -> desk.set(variable, p, q)), () -> Check.none(() -> model.set(variable, p, q)));
    }

    private void gradient() {
        int name = name();
        same("gradient(" + name + ")",
                () -> Check.none(() -> desk.gradient(name)), () -> Check.none(() -> model.gradient(name)));
        for (int r = 0; r < 4; r++) {
            lookAtResult(r);
        }
    }

    private void along() {
        int name = name();
        int x = random.nextInt(2020) - 1010;
        int y = random.nextInt(1999) - 999;
        int z = random.nextInt(1999) - 999;
        same("along(" + name + ", " + x + ", " + y + ", " + z + ")",
                () -> Check.none(() -> desk.along(name, x, y, z)), () -> Check.none(() -> model.along(name, x, y, z)));
        lookAtResult(4);
        lookAtResult(5);
    }

    private void reckon(int what, int r, int i, int j) {
        same("reckon(" + what + ", " + r + ", " + i + ", " + j + ")",
                () -> desk.reckon(what, r, i, j) ? 1 : 0, () -> model.reckon(what, r, i, j) ? 1 : 0);
        lookAtResult(r & 7);
    }

    private void compare() {
        int i = index(8);
        int j = index(8);
        same("compare(" + i + ", " + j + ")", () -> desk.compare(i, j), () -> model.compare(i, j));
    }

    private void write(int name) {
        same("write(" + name + ")", () -> desk.write(name), () -> model.write(name));
        Check.due(where("what was written"), Check.lastWritten(desk), model.lastWritten);
    }

    private void lookAtResult(int r) {
        Model.Ratio due = model.results[r];
        Check.due(where("result " + r), Check.result(desk, r), due.p() + "/" + due.q());
        for (int w = 0; w < 2; w++) {
            int which = w;
            same("bits(" + r + ", " + which + ")", () -> desk.bits(r, which), () -> model.bits(r, which));
        }
    }

    private void lookAtAll() {
        for (int i = 0; i < model.nodes.size(); i++) {
            for (int what = 0; what < 6; what++) {
                Check.due(where("part(" + i + ", " + what + ")"), desk.part(i, what), model.part(i, what));
            }
        }
        for (int r = 0; r < 8; r++) {
            lookAtResult(r);
        }
    }

    private int name() {
        return index(8);
    }

    /** Mostly good, at times one before or behind, or far away. */
    private int index(int size) {
        int odd = random.nextInt(60);
        if (odd > 2) {
            return random.nextInt(size);
        }
        return odd == 0 ? -1 : odd == 1 ? size : random.nextInt();
    }

    private void same(String what, java.util.function.LongSupplier got, java.util.function.LongSupplier want) {
        Check.due(where(what), Check.answer(got), Check.answer(want));
    }

    private String where(String what) {
        return "run " + run + ": " + what;
    }
}
