import java.util.function.Supplier;

/** All that calls can tell of a desk, so that two desks can be compared. */
final class State {
    private State() {
    }

    /** The desk is used up by it: results, names and the text are others then. */
    static String of(GradientDesk desk) {
        StringBuilder out = new StringBuilder();
        out.append("place ").append(desk.place()).append(", made ").append(desk.made());
        for (int r = 0; r < 8; r++) {
            out.append(", ").append(Check.result(desk, r)).append(' ').append(desk.bits(r, 0)).append(' ').append(desk.bits(r, 1));
        }
        out.append(", written ").append(Check.lastWritten(desk));
        out.append(", parts ").append(Check.shelf(desk));
        for (int i = 0; i < desk.made(); i++) {
            out.append(' ').append(desk.part(i, 3)).append(' ').append(desk.part(i, 4)).append(' ').append(desk.part(i, 5));
        }
        for (int k = 0; k < 8; k++) {
            out.append(", ").append(named(desk, k));
        }
        out.append(", text ").append(text(desk));
        return out.toString();
    }

    private static String named(GradientDesk desk, int name) {
        StringBuilder out = new StringBuilder();
        out.append((char) ('A' + name)).append(' ').append(Check.answer(() -> desk.parts(name)));
        out.append(' ').append(Check.answer(() -> desk.write(name))).append(' ').append(Check.lastWritten(desk));
        out.append(' ').append(Check.answer(() -> Check.none(() -> desk.gradient(name))));
        out.append(' ').append(Check.answer(() -> Check.none(() -> desk.along(name, 1, 20, 300))));
        for (int r = 0; r < 6; r++) {
            out.append(' ').append(Check.result(desk, r));
        }
        return out.toString();
    }

    /** Told by what it becomes, with and without more behind it. */
    private static String text(GradientDesk desk) {
        String size = Check.answer(() -> desk.type('b', 1));
        int part = desk.define(6);
        return size + " " + part + " " + desk.place() + " " + (part < 0 ? "" : Check.written(desk, 6));
    }

    /** A desk that the call was made on is as one that it was not made on. */
    static void stays(String what, Supplier<GradientDesk> maker, java.util.function.Consumer<GradientDesk> call) {
        GradientDesk called = maker.get();
        call.accept(called);
        Check.due("the state behind " + what, of(called), of(maker.get()));
    }
}
