import java.util.Random;

/** Random runs of calls, on the class and on the plain model of the document: all answers alike. */
public final class ModelTest {
    private final Random random;
    private final SeatedByDebts x = new SeatedByDebts();
    private final Model m = new Model();
    private final int most;
    private final StringBuilder log = new StringBuilder();

    private ModelTest(long seed, int most) {
        random = new Random(seed);
        this.most = most;
    }

    public static void main(String[] args) {
        int runs = args.length > 0 ? Integer.parseInt(args[0]) : 400;
        int from = args.length > 1 ? Integer.parseInt(args[1]) : 0;
        for (int seed = from; seed < from + runs && Due.wrong() == 0; seed++) {
            new ModelTest(seed, seed % 40 == 0 ? 7 : seed % 8 == 0 ? 6 : 1 + seed % 5).go();
        }
        Due.end("ModelTest");
    }

    private void go() {
        int calls = most > 5 ? 120 : 500;
        for (int i = 0; i < calls && Due.wrong() == 0; i++) call();
        if (Due.wrong() != 0) System.out.println(log);
    }

    private int upTo(int n) { return random.nextInt(n + 1); }

    private boolean oneIn(int n) { return random.nextInt(n) == 0; }

    /** Mostly 0 .. most; sometimes beside that, or far off. */
    private int about(int most) {
        if (!oneIn(14)) return upTo(most);
        int[] odd = {-1, -2, most + 1, most + 2, 1000, -1000, Integer.MAX_VALUE, Integer.MIN_VALUE, 99, 7};
        return odd[random.nextInt(odd.length)];
    }

    private int one() { return oneIn(20) ? about(6) : upTo(Math.max(0, m.count(0) - 1)); }

    private int debt() {
        int[] edges = {0, 0, 1, 4, 5, 10, 20, 99, 100, 101, 499, 500, 501, 998, 999};
        return oneIn(2) ? edges[random.nextInt(edges.length)] : oneIn(3) ? about(999) : upTo(60);
    }

    private void due(String call, long got, long want) {
        log.append(call).append(" -> ").append(got).append('\n');
        Due.is(call, got, want);
    }

    private void call() {
        switch (random.nextInt(30)) {
            case 0, 1 -> { int w = about(3), o = one(), v = w == 2 ? about(9) : w == 1 ? about(999) : w == 3 ? one() - upTo(1) : about(1); due("set(" + w + ", " + o + ", " + v + ")", x.set(w, o, v), m.set(w, o, v)); }
            case 2 -> guest();
            case 3, 4, 5, 6 -> { int a = one(), b = one(), v = debt(); due("owe(" + a + ", " + b + ", " + v + ")", x.owe(a, b, v), m.owe(a, b, v)); }
            case 7 -> { int o = one(), w = about(17); due("told(" + o + ", " + w + ")", x.told(o, w), m.told(o, w)); }
            case 8 -> text();
            case 9 -> { int t = about(m.count(4) - 1); due("force(" + t + ")", x.force(t), m.force(t)); }
            case 10 -> lay();
            case 11 -> { int s = about(3), w = about(2); due("table(" + s + ", " + w + ")", x.table(s, w), m.table(s, w)); }
            case 12, 13 -> { int s = about(3); due("dine(" + s + ")", x.dine(s), m.dine(s)); }
            case 14, 15 -> { int w = about(4); due("tables(" + w + ")", x.tables(w), m.tables(w)); }
            case 16 -> due("bars()", x.bars(), m.bars());
            case 17 -> { int a = one(), b = one(); due("borrow(" + a + ", " + b + ")", x.borrow(a, b), m.borrow(a, b)); }
            case 18 -> { int w = about(1); due("company(" + w + ")", x.company(w), m.company(w)); }
            case 19 -> { int n = oneIn(most > 5 ? 40 : 3) ? about(20) : about(2), w = about(2); due("run(" + n + ", " + w + ")", x.run(n, w), m.run(n, w)); }
            case 20, 21 -> { int s = about(3), o = one(), w = oneIn(2) ? about(2) : (oneIn(2) ? 10 : 20) + one(); due("tells(" + s + ", " + o + ", " + w + ")", x.tells(s, o, w), m.tells(s, o, w)); }
            case 22 -> { int s = about(3); due("film(" + s + ")", x.film(s), m.film(s)); }
            case 23 -> { int s = random.nextInt(); due("drawn(" + s + ")", x.drawn(s), m.drawn(s)); }
            case 24 -> { int s = oneIn(5) ? Integer.MAX_VALUE - 1 : random.nextInt(), n = most > 5 ? about(2) : about(20), p = about(1); due("chance(" + s + ", " + n + ", " + p + ")", x.chance(s, n, p), m.chance(s, n, p)); }
            case 25 -> { if (oneIn(3)) due("image()", x.image(), m.image()); else if (oneIn(2)) due("back()", x.back(), m.back()); }
            case 26 -> { int w = about(6); due("count(" + w + ")", x.count(w), m.count(w)); }
            case 27 -> host();
            case 28 -> guests();
            default -> { int g = one(), k = about(5); due("taken(" + g + ", " + k + ")", x.taken(g, k), m.taken(g, k)); }
        }
    }

    private void guest() {
        int k = about(5), n = about(9);
        if (m.count(0) < most || m.count(0) == 7) due("guest(" + k + ", " + n + ")", x.guest(k, n), m.guest(k, n));
    }

    private void lay() {
        int s = upTo(3), n = m.count(0);
        java.util.List<Integer> order = m.all();
        java.util.Collections.shuffle(order, random);
        int size = oneIn(4) ? upTo(n) : n, sort = upTo(2);
        due("sheet(" + s + ", " + sort + ", " + size + ")", x.sheet(s, sort, size), m.sheet(s, sort, size));
        for (int i = 0; i < size; i++) {
            int v = oneIn(25) ? about(6) : order.get(i) + (oneIn(9) ? 256 : oneIn(9) ? 65536 : 0);
            due("cell(" + s + ", " + i + ", " + v + ")", x.cell(s, i, v), m.cell(s, i, v));
        }
    }

    private void host() {
        int s = about(3), i = about(7), o = about(3), j = about(7), n = about(5), sort = upTo(3) - 1;
        if (oneIn(4)) due("sheet(" + s + ", " + sort + ", " + i + ")", x.sheet(s, sort, i), m.sheet(s, sort, i));
        else if (oneIn(3)) due("cell(" + s + ", " + i + ", " + j + ")", x.cell(s, i, j), m.cell(s, i, j));
        else due("copy(" + s + ", " + i + ", " + o + ", " + j + ", " + n + ")", x.copy(s, i, o, j, n), m.copy(s, i, o, j, n));
    }

    private void guests() {
        int s = about(3), sort = about(2), from = about(6), n = Math.min(about(7), most - m.count(0));
        due("guests(" + s + ", " + sort + ", " + from + ", " + n + ")", x.guests(s, sort, from, n), m.guests(s, sort, from, n));
    }

    private void text() {
        StringBuilder t = new StringBuilder();
        for (String key : new String[] {"forgives", "lends", "joys"}) t.append(key).append(blank(1)).append(either(upTo(3))).append(';').append(blank(0));
        for (int k = oneIn(3) ? 1 + upTo(2) : 0; k > 0; k--) spoil(t);
        if (t.length() > 165) t.setLength(165);
        for (int i = 0; i < t.length(); i++) due("feed(" + (int) t.charAt(i) + ")", x.feed(t.charAt(i)), m.feed(t.charAt(i)));
        if (m.count(4) < 5 || oneIn(3)) due("text() of [" + m.tape + "]", x.text(), m.text());
    }

    private void spoil(StringBuilder t) {
        String[] bits = {"(", ")", "-", "not ", " and ", " or ", ";", "<", "=", "x", "12345", "00000", "seats", "\t", "é", "+", "*", " joys ", "- - - ", "((((("};
        int at = upTo(t.length());
        if (oneIn(3) && at < t.length()) t.deleteCharAt(at);
        else if (oneIn(8)) t.setLength(at);
        else t.insert(at, bits[random.nextInt(bits.length)]);
    }

    private String blank(int least) { return least > 0 ? " " : oneIn(4) ? (oneIn(2) ? " " : "\n ") : ""; }

    private String either(int deep) {
        String s = both(deep);
        while (oneIn(5)) s += " or " + both(deep);
        return s;
    }

    private String both(int deep) {
        String s = not(deep);
        while (oneIn(5)) s += " and " + not(deep);
        return s;
    }

    private String not(int deep) {
        if (oneIn(6)) return "not " + not(deep);
        String s = sum(deep);
        return oneIn(4) ? s + blank(0) + (oneIn(2) ? "<" : "=") + sum(deep) : s;
    }

    private String sum(int deep) {
        String s = term(deep);
        while (oneIn(3)) s += blank(0) + (oneIn(2) ? "+" : "-") + blank(0) + term(deep);
        return s;
    }

    private String term(int deep) {
        String s = single(deep);
        while (oneIn(4)) s += "*" + blank(0) + single(deep);
        return s;
    }

    private String single(int deep) {
        if (deep > 0 && oneIn(4)) return "(" + either(deep - 1) + ")";
        if (oneIn(7)) return "-" + blank(0) + single(deep);
        if (oneIn(3)) return String.valueOf(oneIn(4) ? upTo(9999) : upTo(40));
        return Model.Texts.NAMES.get(random.nextInt(6));
    }
}
