import java.math.BigInteger;
import java.util.ArrayList;
import java.util.List;

/**
 * The document once more, written as plainly as can be over BigInteger and without any thought of
 * room or speed. ModelTest compares the desk with it.
 */
final class Model {
    record Ratio(BigInteger p, BigInteger q) {
        static final Ratio ZERO = of(0, 1);
        static final Ratio ONE = of(1, 1);

        static Ratio of(long p, long q) {
            return of(BigInteger.valueOf(p), BigInteger.valueOf(q));
        }

        static Ratio of(BigInteger p, BigInteger q) {
            BigInteger g = p.gcd(q);
            return new Ratio(p.divide(g), q.divide(g));
        }

        Ratio plus(Ratio y) {
            return of(p.multiply(y.q).add(y.p.multiply(q)), q.multiply(y.q));
        }

        Ratio times(Ratio y) {
            return of(p.multiply(y.p), q.multiply(y.q));
        }

        Ratio pow(int n) {
            return new Ratio(p.pow(n), q.pow(n));
        }

        int compare(Ratio y) {
            return p.multiply(y.q).compareTo(y.p.multiply(q));
        }

        boolean isLong() {
            return p.abs().bitLength() > 1000 || q.bitLength() > 1000;
        }

        String text() {
            return q.equals(BigInteger.ONE) ? p.toString() : p + "/" + q;
        }
    }

    /** Equal parts say the same, so the list of parts is searched by equals. */
    record Node(int sort, Ratio number, int first, int second, int degree, int n, int d) {
    }

    static final class Refused extends RuntimeException {
        private static final long serialVersionUID = 1L;
        final int code;

        Refused(int code) {
            super(null, null, false, false);
            this.code = code;
        }
    }

    String text = "";
    int place = -1;
    final List<Node> nodes = new ArrayList<>();
    final Integer[] names = new Integer[8];
    final Ratio[] point = {Ratio.ZERO, Ratio.ZERO, Ratio.ZERO};
    final Ratio[] results = new Ratio[8];
    String lastWritten = "";
    private boolean limited = true;
    private int at;
    private String reading;

    Model() {
        java.util.Arrays.fill(results, Ratio.ZERO);
    }

    int type(long w, int n) {
        need(n >= 1 && n <= 8);
        StringBuilder more = new StringBuilder();
        for (int k = 0; k < n; k++) {
            int c = (int) (w >> 8 * k & 0xff);
            need(c >= 32 && c <= 126);
            more.append((char) c);
        }
        if (text.length() + n > 64) {
            throw new IllegalStateException();
        }
        text += more;
        return text.length();
    }

    int define(int name) {
        needName(name);
        String whole = text;
        text = "";
        place = -1;
        if (!inGrammar(whole)) {
            place = findPlace(whole);
            return GradientDesk.SYNTAX;
        }
        for (char c = 'A'; c <= 'H'; c++) {
            if (whole.indexOf(c) >= 0 && names[c - 'A'] == null) {
                return GradientDesk.UNKNOWN;
            }
        }
        return named(name, () -> {
            start(whole);
            return sum(true);
        });
    }

    int derive(int of, int variable, int name) {
        needName(of);
        needName(name);
        need(variable >= 0 && variable <= 2);
        needExpression(of);
        return named(name, () -> derivative(names[of], variable));
    }

    int parts(int name) {
        needName(name);
        needExpression(name);
        return reach(names[name]).size();
    }

    int part(int i, int what) {
        needIndex(i, nodes.size());
        need(what >= 0 && what <= 5);
        Node node = nodes.get(i);
        return switch (what) {
            case 0 -> node.sort;
            case 1 -> node.first;
            case 2 -> node.second;
            case 3 -> node.degree;
            case 4 -> node.n;
            default -> node.d;
        };
    }

    boolean number(int i, int r) {
        needIndex(i, nodes.size());
        needIndex(r, 8);
        boolean is = nodes.get(i).sort == 0;
        results[r] = is ? nodes.get(i).number : Ratio.ZERO;
        return is;
    }

    void clear() {
        nodes.clear();
        java.util.Arrays.fill(names, null);
    }

    void set(int variable, int p, int q) {
        need(variable >= 0 && variable <= 2 && Math.abs((long) p) <= 9999 && q >= 1 && q <= 9999);
        point[variable] = Ratio.of(p, q);
    }

    void gradient(int name) {
        needName(name);
        needExpression(name);
        results[0] = value(names[name]);
        for (int v = 0; v < 3; v++) {
            results[1 + v] = slope(names[name], v);
        }
    }

    void along(int name, int x, int y, int z) {
        needName(name);
        int[] steps = {x, y, z};
        for (int step : steps) {
            need(step >= -999 && step <= 999);
        }
        needExpression(name);
        results[4] = value(names[name]);
        results[5] = Ratio.ZERO;
        for (int v = 0; v < 3; v++) {
            results[5] = results[5].plus(slope(names[name], v).times(Ratio.of(steps[v], 1)));
        }
    }

    boolean reckon(int what, int r, int i, int j) {
        needIndex(r, 8);
        needIndex(i, 8);
        needIndex(j, 8);
        need(what >= 0 && what <= 2);
        Ratio x = results[i];
        Ratio y = results[j];
        if (x.isLong() || y.isLong()) {
            return false;
        }
        results[r] = what == 2 ? x.times(y) : x.plus(what == 0 ? y : y.times(Ratio.of(-1, 1)));
        return true;
    }

    int compare(int i, int j) {
        needIndex(i, 8);
        needIndex(j, 8);
        return results[i].compare(results[j]);
    }

    int sign(int r) {
        needIndex(r, 8);
        return results[r].p.signum();
    }

    int bits(int r, int which) {
        needIndex(r, 8);
        need(which == 0 || which == 1);
        return (which == 0 ? results[r].p.abs() : results[r].q).bitLength();
    }

    int word(int r, int which, int i) {
        needIndex(r, 8);
        needIndex(i, 64);
        need(which == 0 || which == 1);
        return (which == 0 ? results[r].p.abs() : results[r].q).shiftRight(32 * i).intValue();
    }

    int write(int name) {
        needName(name);
        needExpression(name);
        String[] texts = new String[names[name] + 1];
        for (int i : reach(names[name])) {
            texts[i] = textOf(nodes.get(i), texts);
        }
        if (texts[names[name]].length() > 250) {
            return GradientDesk.LARGE;
        }
        lastWritten = texts[names[name]];
        return lastWritten.length();
    }

    int written(int i) {
        needIndex(i, lastWritten.length());
        return lastWritten.charAt(i);
    }

    /** Cut at 300 characters, which is too long already and stays so. */
    private static String textOf(Node node, String[] texts) {
        String text = switch (node.sort) {
            case 0 -> node.number.text();
            case 1 -> "abc".substring(node.first, node.first + 1);
            case 2 -> "(" + texts[node.first] + "+" + texts[node.second] + ")";
            case 3 -> "(" + texts[node.first] + "*" + texts[node.second] + ")";
            default -> texts[node.first] + "^" + node.second;
        };
        return text.length() > 300 ? text.substring(0, 300) : text;
    }

    private int named(int name, java.util.function.IntSupplier make) {
        int before = nodes.size();
        try {
            names[name] = make.getAsInt();
            return names[name];
        } catch (Refused e) {
            nodes.subList(before, nodes.size()).clear();
            return e.code;
        }
    }

    // The grammar, by its words: a reading that makes parts, or only looks.

    private static final class NotInGrammar extends RuntimeException {
        private static final long serialVersionUID = 1L;

        NotInGrammar() {
            super(null, null, false, false);
        }
    }

    private void start(String whole) {
        reading = whole + "$";
        at = 0;
    }

    private boolean inGrammar(String whole) {
        start(whole);
        try {
            sum(false);
            return at == whole.length();
        } catch (NotInGrammar e) {
            return false;
        }
    }

    /** A text can be gone on with if some short ending and some brackets make it one. */
    private int findPlace(String whole) {
        for (int n = 1; n <= whole.length(); n++) {
            if (!canGoOn(whole.substring(0, n))) {
                return n - 1;
            }
        }
        return whole.length();
    }

    private boolean canGoOn(String start) {
        for (int brackets = 0; brackets <= 64; brackets++) {
            if (inGrammar(start + ")".repeat(brackets)) || inGrammar(start + "1" + ")".repeat(brackets))) {
                return true;
            }
        }
        return false;
    }

    private boolean next(char c) {
        if (reading.charAt(at) == c) {
            at++;
            return true;
        }
        return false;
    }

    private int sum(boolean make) {
        int x = term(make);
        while (true) {
            if (next('+')) {
                int y = term(make);
                x = make ? makeSum(x, y) : 0;
            } else if (next('-')) {
                int y = term(make);
                x = make ? makeSum(x, negative(y)) : 0;
            } else {
                return x;
            }
        }
    }

    private int term(boolean make) {
        int x = factor(make);
        while (next('*')) {
            int y = factor(make);
            x = make ? makeProduct(x, y) : 0;
        }
        return x;
    }

    private int factor(boolean make) {
        if (next('-')) {
            int x = factor(make);
            return make ? negative(x) : 0;
        }
        int x = atom(make);
        if (next('^')) {
            char c = reading.charAt(at);
            if (c < '0' || c > '9') {
                throw new NotInGrammar();
            }
            at++;
            return make ? makePower(x, c - '0') : 0;
        }
        return x;
    }

    private int atom(boolean make) {
        char c = reading.charAt(at);
        if (next('(')) {
            int x = sum(make);
            if (!next(')')) {
                throw new NotInGrammar();
            }
            return x;
        }
        if (c >= 'a' && c <= 'c') {
            at++;
            return make ? put(1, null, c - 'a', -1) : 0;
        }
        if (c >= 'A' && c <= 'H') {
            at++;
            return make ? names[c - 'A'] : 0;
        }
        int p = digits();
        int q = 1;
        if (next('/')) {
            q = digits();
            if (q == 0) {
                throw new NotInGrammar();
            }
        }
        return make ? makeNumber(Ratio.of(p, q)) : 0;
    }

    private int digits() {
        int from = at;
        while (at < from + 4 && Character.isDigit(reading.charAt(at))) {
            at++;
        }
        if (at == from) {
            throw new NotInGrammar();
        }
        return Integer.parseInt(reading.substring(from, at));
    }

    // To make.

    private int put(int sort, Ratio number, int first, int second) {
        int[] measure = measure(sort, number, first, second);
        Node node = new Node(sort, number, first, second, measure[0], measure[1], measure[2]);
        int there = nodes.indexOf(node);
        if (there >= 0) {
            return there;
        }
        nodes.add(node);
        if (limited && (node.degree > 8 || node.n > 400 || node.d > 400)) {
            throw new Refused(GradientDesk.LARGE);
        }
        if (limited && nodes.size() > 200) {
            throw new Refused(GradientDesk.FULL);
        }
        return nodes.size() - 1;
    }

    private int makeNumber(Ratio number) {
        return put(0, number, -1, -1);
    }

    private Ratio numberOf(int x) {
        return nodes.get(x).number;
    }

    private boolean is(int x, Ratio number) {
        return number.equals(numberOf(x));
    }

    private int makeSum(int x, int y) {
        if (numberOf(x) != null && numberOf(y) != null) {
            return makeNumber(numberOf(x).plus(numberOf(y)));
        }
        if (is(x, Ratio.ZERO)) {
            return y;
        }
        return is(y, Ratio.ZERO) ? x : put(2, null, x, y);
    }

    private int makeProduct(int x, int y) {
        if (numberOf(x) != null && numberOf(y) != null) {
            return makeNumber(numberOf(x).times(numberOf(y)));
        }
        if (is(x, Ratio.ZERO)) {
            return x;
        }
        if (is(y, Ratio.ZERO)) {
            return y;
        }
        if (is(x, Ratio.ONE)) {
            return y;
        }
        return is(y, Ratio.ONE) ? x : put(3, null, x, y);
    }

    private int makePower(int x, int n) {
        if (n == 0) {
            return makeNumber(Ratio.ONE);
        }
        if (n == 1) {
            return x;
        }
        return numberOf(x) != null ? makeNumber(numberOf(x).pow(n)) : put(4, null, x, n);
    }

    private int negative(int x) {
        int minusOne = makeNumber(Ratio.of(-1, 1));
        return makeProduct(minusOne, x);
    }

    /** DEGREE, n and d, from those of the operands. */
    private int[] measure(int sort, Ratio number, int first, int second) {
        if (sort == 0) {
            int n = Math.max(1, number.p.abs().bitLength());
            int d = number.q.bitLength();
            return new int[] {0, n, d == 1 ? 0 : d};
        }
        if (sort == 1) {
            return new int[] {1, 1, 0};
        }
        Node x = nodes.get(first);
        if (sort == 4) {
            return new int[] {x.degree * second, second * (x.n + 8), second * x.d};
        }
        Node y = nodes.get(second);
        if (sort == 2) {
            return new int[] {Math.max(x.degree, y.degree), 1 + Math.max(x.n + y.d, y.n + x.d), x.d + y.d};
        }
        return new int[] {x.degree + y.degree, x.n + y.n + 8, x.d + y.d};
    }

    private java.util.TreeSet<Integer> reach(int root) {
        java.util.TreeSet<Integer> found = new java.util.TreeSet<>();
        java.util.ArrayDeque<Integer> open = new java.util.ArrayDeque<>(List.of(root));
        while (!open.isEmpty()) {
            int i = open.pop();
            if (found.add(i)) {
                Node node = nodes.get(i);
                if (node.sort >= 2) {
                    open.push(node.first);
                }
                if (node.sort == 2 || node.sort == 3) {
                    open.push(node.second);
                }
            }
        }
        return found;
    }

    private int derivative(int root, int variable) {
        int[] done = new int[root + 1];
        for (int i : reach(root)) {
            Node node = nodes.get(i);
            int x = node.first;
            int y = node.second;
            switch (node.sort) {
                case 0 -> done[i] = makeNumber(Ratio.ZERO);
                case 1 -> done[i] = makeNumber(x == variable ? Ratio.ONE : Ratio.ZERO);
                case 2 -> done[i] = makeSum(done[x], done[y]);
                case 3 -> {
                    int left = makeProduct(done[x], y);
                    int right = makeProduct(x, done[y]);
                    done[i] = makeSum(left, right);
                }
                default -> {
                    int n = makeNumber(Ratio.of(y, 1));
                    int less = makePower(x, y - 1);
                    int both = makeProduct(n, less);
                    done[i] = makeProduct(both, done[x]);
                }
            }
        }
        return done[root];
    }

    private Ratio value(int root) {
        Ratio[] done = new Ratio[root + 1];
        for (int i : reach(root)) {
            Node node = nodes.get(i);
            done[i] = switch (node.sort) {
                case 0 -> node.number;
                case 1 -> point[node.first];
                case 2 -> done[node.first].plus(done[node.second]);
                case 3 -> done[node.first].times(done[node.second]);
                default -> done[node.first].pow(node.second);
            };
        }
        return done[root];
    }

    /** The value of the derivative's part, made as if there were room for it. */
    private Ratio slope(int root, int variable) {
        int before = nodes.size();
        limited = false;
        Ratio slope = value(derivative(root, variable));
        limited = true;
        nodes.subList(before, nodes.size()).clear();
        return slope;
    }

    private void needName(int name) {
        need(name >= 0 && name <= 7);
    }

    private void needExpression(int name) {
        if (names[name] == null) {
            throw new java.util.NoSuchElementException();
        }
    }

    private static void need(boolean holds) {
        if (!holds) {
            throw new IllegalArgumentException();
        }
    }

    private static void needIndex(int i, int size) {
        if (i < 0 || i >= size) {
            throw new IndexOutOfBoundsException();
        }
    }
}
