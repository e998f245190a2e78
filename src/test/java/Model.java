import java.util.ArrayList;
import java.util.Arrays;
import java.util.List;

/**
 * The document once more, in the plainest way and without a thought for speed: tables are all permutations, each
 * judged by itself; texts are cut into tokens and told anew each time. ModelTest compares the class with it.
 */
final class Model {
    static final int NONE = -1, BAD = -2, STATE = -3, FULL = -4;
    static final long NO = -4611686018427387904L;

    static final class One implements Cloneable {
        int kind, number, wants = NONE;
        int[] owes = new int[7];

        One another() {
            One o = new One();
            o.kind = kind;
            o.number = number;
            o.wants = wants;
            o.owes = owes.clone();
            return o;
        }
    }

    int round = 1, dinners = 0, rule = 0;
    List<One> people = new ArrayList<>();
    List<String> texts = new ArrayList<>(List.of("forgives 5 ; lends 2 ; joys 1 ;"));
    StringBuilder tape = new StringBuilder();
    Model kept;
    int[][] sheets = new int[4][];
    int[] sorts = {-1, -1, -1, -1};

    Model thought() {
        Model m = new Model();
        m.round = round;
        m.dinners = dinners;
        m.rule = rule;
        m.texts = texts;
        for (One o : people) m.people.add(o.another());
        return m;
    }

    boolean is(int one) { return one >= 0 && one < people.size(); }

    // ---- people, debts

    int set(int what, int of, int v) {
        int was;
        if (what == 0 && (v == 0 || v == 1)) { was = round; round = v; return was; }
        if (what == 1 && v >= 0 && v <= 999) { was = dinners; dinners = v; return was; }
        if (what == 2 && is(of) && v >= 0 && v <= 9) { was = people.get(of).number; people.get(of).number = v; return was; }
        if (what == 3 && is(of) && (v == NONE || is(v) && v != of)) { was = people.get(of).wants; people.get(of).wants = v; return was; }
        return BAD;
    }

    int guest(int kind, int number) {
        if (kind < 0 || kind > 5 || number < 0 || number > 9) return BAD;
        if (people.size() == 7) return FULL;
        One o = new One();
        o.kind = kind;
        o.number = number;
        people.add(o);
        return people.size() - 1;
    }

    int owe(int one, int other, int v) {
        if (!is(one) || !is(other) || one == other || v < 0 || v > 999) return BAD;
        int was = people.get(one).owes[other];
        people.get(one).owes[other] = v;
        return was;
    }

    List<Integer> all() {
        List<Integer> all = new ArrayList<>();
        for (int i = 0; i < people.size(); i++) all.add(i);
        return all;
    }

    int creditor(int one, List<Integer> among) {
        int best = NONE;
        for (int i = 0; i < people.size(); i++) {
            if (!among.contains(i) || people.get(one).owes[i] == 0) continue;
            if (best == NONE || people.get(one).owes[i] > people.get(one).owes[best]) best = i;
        }
        return best;
    }

    boolean must(int one, List<Integer> among) {
        int c = creditor(one, among);
        if (c == NONE) return false;
        int d = people.get(one).owes[c], number = people.get(one).number;
        return switch (people.get(one).kind) {
            case 0 -> true;
            case 1 -> d > 10 * number;
            case 2 -> false;
            case 3 -> d > 10 * number && number % 2 == 0;
            case 4 -> d > 500;
            default -> d % 2 == 1;
        };
    }

    int told(int of, int what) {
        if (what == 0) return round;
        if (what == 1) return dinners;
        if (!is(of)) return BAD;
        One o = people.get(of);
        if (what == 2) return o.number;
        if (what == 3) return o.wants;
        if (what == 4) return o.kind;
        if (what == 5) return creditor(of, all());
        if (what == 6) return must(of, all()) ? 1 : 0;
        if (what == 7) return Arrays.stream(o.owes).sum();
        if (what >= 10 && what <= 16 && is(what - 10)) return o.owes[what - 10];
        return BAD;
    }

    // ---- texts

    int feed(int letter) {
        if (letter < 0 || letter > 255) return BAD;
        if (tape.length() == 160) return FULL;
        tape.append((char) letter);
        return tape.length();
    }

    int text() {
        if (texts.size() == 6) return FULL;
        String t = tape.toString();
        tape.setLength(0);
        int fault = Texts.fault(t);
        if (fault >= 0) return -100 - fault;
        texts.add(t);
        return texts.size() - 1;
    }

    int force(int text) {
        if (text < 0 || text >= texts.size()) return BAD;
        int was = rule;
        rule = text;
        return was;
    }

    int tell(String part, int one, int neighbour, int seat, int seats) {
        One o = people.get(one);
        int v = Texts.tell(texts.get(rule), part, people.get(neighbour).owes[one], o.owes[neighbour], o.number, seats, seat,
                o.wants == neighbour ? 1 : 0);
        return part.equals("joys") ? Math.min(99, Math.max(-99, v)) : Math.min(99, Math.max(0, v));
    }

    // ---- tables, dinners

    List<Integer> tableOf(int sheet) {
        List<Integer> t = new ArrayList<>();
        for (int v : sheets[sheet]) {
            if (!is(v) || t.contains(v)) return null;
            t.add(v);
        }
        return t;
    }

    boolean beside(List<Integer> t, int a, int b) {
        int n = t.size(), i = t.indexOf(a), j = t.indexOf(b);
        return Math.abs(i - j) == 1 || round == 1 && i != j && Math.min(i, j) == 0 && Math.max(i, j) == n - 1;
    }

    int firstWronged(List<Integer> t) {
        for (int i = 0; i < t.size(); i++) {
            if (must(t.get(i), t) && !beside(t, t.get(i), creditor(t.get(i), t))) return i;
        }
        return NONE;
    }

    int glad(int one, int neighbour, int seat, int seats) {
        One o = people.get(one);
        int v = tell("joys", one, neighbour, seat, seats);
        boolean wanted = o.wants == neighbour;
        int guest = v + (wanted ? 10 : 0);
        int miser = guest - (wanted ? 0 : 5);
        return switch (o.kind) {
            case 0 -> guest;
            case 1, 3 -> miser;
            case 2 -> guest * 2;
            case 4 -> guest * 2 + o.number;
            default -> 3;
        };
    }

    int joy(List<Integer> t) {
        int joy = 0;
        for (int i = 0; i < t.size(); i++) {
            for (int j = 0; j < t.size(); j++) {
                if (beside(t, t.get(i), t.get(j))) joy += glad(t.get(i), t.get(j), i, t.size());
            }
        }
        return joy;
    }

    int letsGo(int one, int neighbour, int seat, int seats) {
        One o = people.get(one);
        int d = people.get(neighbour).owes[one];
        int v = tell("forgives", one, neighbour, seat, seats);
        int go = switch (o.kind) {
            case 0 -> v;
            case 1 -> v / 2;
            case 2 -> v * 2;
            case 3 -> v / 2 + o.number;
            case 4 -> d < 100 ? d : v * 2;
            default -> 0;
        };
        return Math.min(d, Math.max(0, go));
    }

    int lends(int one, int neighbour, int seat, int seats) {
        One o = people.get(one);
        int v = tell("lends", one, neighbour, seat, seats);
        return switch (o.kind) {
            case 0, 5 -> v;
            case 1, 3 -> 0;
            case 2 -> v + o.number;
            default -> (v + o.number) / 2;
        };
    }

    void pair(List<Integer> t, int i, int j) {
        int n = t.size(), ia = t.get(i), ib = t.get(j);
        One a = people.get(ia), b = people.get(ib);
        a.owes[ib] -= letsGo(ib, ia, j, n);
        b.owes[ia] -= letsGo(ia, ib, i, n);
        a.owes[ib] = Math.min(999, a.owes[ib] + lends(ib, ia, j, n));
        b.owes[ia] = Math.min(999, b.owes[ia] + lends(ia, ib, i, n));
    }

    void dinner(List<Integer> t) {
        for (int i = 0; i + 1 < t.size(); i++) pair(t, i, i + 1);
        if (round == 1 && t.size() >= 3) pair(t, t.size() - 1, 0);
    }

    int owedBehind(List<Integer> t) {
        Model m = thought();
        m.dinner(t);
        return m.owed();
    }

    int owed() {
        int sum = 0;
        for (One o : people) for (int d : o.owes) sum += d;
        return sum;
    }

    int ruined() {
        int bits = 0;
        for (int i = 0; i < people.size(); i++) if (Arrays.stream(people.get(i).owes).sum() >= 1000) bits |= 1 << i;
        return bits;
    }

    int table(int sheet, int what) {
        if (sheet < 0 || sheet > 3 || what < 0 || what > 2 || sheets[sheet] == null) return -100000;
        List<Integer> t = tableOf(sheet);
        if (t == null) return -100000;
        return what == 0 ? (firstWronged(t) == NONE ? 1 : 0) : what == 1 ? joy(t) : owedBehind(t);
    }

    int dine(int sheet) {
        if (sheet < 0 || sheet > 3) return BAD;
        if (sheets[sheet] == null) return -11;
        List<Integer> t = tableOf(sheet);
        if (t == null) return BAD;
        if (dinners == 999) return STATE;
        dinner(t);
        dinners++;
        return owed();
    }

    /** All tables of some people, in order. */
    List<List<Integer>> orders(List<Integer> who) {
        List<List<Integer>> out = new ArrayList<>();
        if (who.isEmpty()) {
            out.add(new ArrayList<>());
            return out;
        }
        for (Integer first : who) {
            List<Integer> rest = new ArrayList<>(who);
            rest.remove(first);
            for (List<Integer> order : orders(rest)) {
                order.add(0, first);
                out.add(order);
            }
        }
        return out;
    }

    List<List<Integer>> lawful(List<Integer> who) {
        List<List<Integer>> out = new ArrayList<>();
        for (List<Integer> t : orders(who)) {
            if (round == 1 && !t.isEmpty() && !t.get(0).equals(who.get(0))) continue;
            if (firstWronged(t) == NONE) out.add(t);
        }
        return out;
    }

    List<Integer> gladdest() {
        List<Integer> best = null;
        for (List<Integer> t : lawful(all())) if (best == null || joy(t) > joy(best)) best = t;
        return best;
    }

    List<Integer> clearest() {
        List<Integer> best = null;
        for (List<Integer> t : lawful(all())) if (best == null || owedBehind(t) < owedBehind(best)) best = t;
        return best;
    }

    static int digits(List<Integer> t) {
        StringBuilder b = new StringBuilder("0");
        if (t != null) for (int one : t) b.append(one + 1);
        return Integer.parseInt(b.toString());
    }

    int tables(int what) {
        if (what == 0) return lawful(all()).size();
        if (what == 1) return digits(gladdest());
        if (what == 2) return gladdest() == null ? 0 : joy(gladdest());
        if (what == 3) return digits(clearest());
        if (what == 4) return clearest() == null ? NONE : owedBehind(clearest());
        return BAD;
    }

    // ---- what would be best

    int bars() {
        if (!lawful(all()).isEmpty()) return NONE;
        for (int one = 0; one < people.size(); one++) {
            Model m = thought();
            m.people.get(one).kind = 2; // a HOST never must
            if (!m.lawful(all()).isEmpty()) return one;
        }
        return NONE;
    }

    int borrow(int one, int other) {
        if (!is(one) || !is(other) || one == other) return BAD;
        Model m = thought();
        int had = people.get(one).owes[other];
        for (int more = 0; had + more <= 999; more++) {
            m.people.get(one).owes[other] = had + more;
            if (m.creditor(one, all()) == other) return more;
        }
        return NONE;
    }

    int company(int what) {
        if (what < 0 || what > 1) return BAD;
        int best = 0;
        for (int bits = 0; bits < 1 << people.size(); bits++) {
            if (Integer.bitCount(bits) <= Integer.bitCount(best)) continue;
            List<Integer> who = new ArrayList<>();
            for (int i = 0; i < 7; i++) if ((bits & 1 << i) != 0) who.add(i);
            if (!lawful(who).isEmpty()) best = bits;
        }
        return what == 0 ? best : Integer.bitCount(best);
    }

    int run(int n, int what) {
        if (n < 0 || n > 20 || what < 0 || what > 2) return BAD;
        Model m = thought();
        int held = 0;
        while (held < n) {
            List<Integer> t = m.gladdest();
            if (t == null) break;
            m.dinner(t);
            held++;
        }
        return what == 0 ? held : what == 1 ? m.owed() : m.ruined();
    }

    // ---- tables that were told

    int tells(int sheet, int one, int what) {
        if (sheet < 0 || sheet > 3 || !is(one)) return BAD;
        if (what < 0 || what > 2 && what < 10 || what > 29) return BAD;
        if (what >= 10 && (!is(what % 10) || what % 10 == one)) return BAD;
        if (sheets[sheet] == null) return -11;
        List<Integer> t = tableOf(sheet);
        if (t == null || t.size() != people.size()) return BAD;
        if (what == 0) return firstWronged(t);
        Model m = thought();
        int bits = 0, many = 0, most = NONE;
        for (int v = 0; v <= (what == 1 ? 5 : what == 2 ? 9 : 999); v++) {
            if (what == 1) m.people.get(one).kind = v;
            else if (what == 2) m.people.get(one).number = v;
            else m.people.get(one).owes[what % 10] = v;
            if (m.firstWronged(t) == NONE) {
                bits |= 1 << v;
                many++;
                most = v;
            }
        }
        return what <= 2 ? bits : what < 20 ? many : most;
    }

    int film(int sheet) {
        if (sheet < 0 || sheet > 3) return BAD;
        List<Integer> t = gladdest();
        if (t == null) t = List.of();
        sorts[sheet] = 0;
        sheets[sheet] = t.stream().mapToInt(Integer::intValue).toArray();
        return t.size();
    }

    Model drawnBy(int seed) {
        Model m = thought();
        int z = seed;
        for (int i = 0; i < people.size(); i++) {
            for (int j = 0; j < people.size(); j++) {
                if (i == j) continue;
                z = z * 1103515245 + 12345;
                m.people.get(i).owes[j] = (z >>> 9) % 100;
            }
        }
        return m;
    }

    int drawn(int seed) { return drawnBy(seed).lawful(all()).size(); }

    long chance(int seed, int n, int part) {
        if (n < 1 || n > 20 || part < 0 || part > 1) return NO;
        int having = 0;
        for (int i = 0; i < n; i++) if (drawn(seed + i) > 0) having++;
        int divisor = java.math.BigInteger.valueOf(having).gcd(java.math.BigInteger.valueOf(n)).intValue();
        return (part == 0 ? having : n) / divisor;
    }

    int image() {
        kept = thought();
        return people.size();
    }

    int back() {
        if (kept == null) return STATE;
        Model m = kept.thought();
        round = m.round;
        dinners = m.dinners;
        rule = m.rule;
        people = m.people;
        return people.size();
    }

    int count(int what) {
        return switch (what) {
            case 0 -> people.size();
            case 1 -> owed();
            case 2 -> ruined();
            case 3 -> dinners;
            case 4 -> texts.size();
            case 5 -> tape.length();
            case 6 -> rule;
            default -> BAD;
        };
    }

    // ---- the host

    int sheet(int sheet, int sort, int n) {
        if (sheet < 0 || sheet > 3 || sort < -1 || sort > 2) return BAD;
        if (sort >= 0 && n > 40) return BAD;
        if (sort >= 0 && n < 0) return -14;
        sorts[sheet] = sort;
        sheets[sheet] = sort < 0 ? null : new int[n];
        return 1;
    }

    int cell(int sheet, int i, int v) {
        if (sheet < 0 || sheet > 3) return BAD;
        if (sheets[sheet] == null) return -11;
        if (i < 0 || i >= sheets[sheet].length) return -12;
        sheets[sheet][i] = sorts[sheet] == 0 ? (byte) v : sorts[sheet] == 1 ? (short) v : v;
        return 1;
    }

    int copy(int sheet, int i, int other, int j, int n) {
        if (sheet < 0 || sheet > 3 || other < 0 || other > 3) return BAD;
        if (sheets[sheet] == null || sheets[other] == null) return -11;
        if (sorts[sheet] != sorts[other]) return -13;
        long from = i, to = j;
        if (n < 0 || i < 0 || j < 0 || from + n > sheets[sheet].length || to + n > sheets[other].length) return -12;
        int[] was = sheets[sheet].clone();
        for (int k = 0; k < n; k++) sheets[other][j + k] = was[i + k];
        return n;
    }

    int guests(int sheet, int sort, int from, int n) {
        if (sheet < 0 || sheet > 3 || sort < 0 || sort > 2 || n < 0 || n > 7) return BAD;
        if (sheets[sheet] == null) return -11;
        if (sorts[sheet] != sort) return -13;
        int came = 0;
        for (long k = 0; k < n; k++) {
            long at = from + 2 * k;
            if (at < 0 || at + 1 >= sheets[sheet].length) return -12;
            if (guest(sheets[sheet][(int) at], sheets[sheet][(int) at + 1]) >= 0) came++;
        }
        return came;
    }

    int taken(int guest, int k) {
        if (k < 0 || k > 5) return BAD;
        if (!is(guest)) return -11;
        String[] lines = {"0", "01", "02", "013", "024", "05"};
        return lines[people.get(guest).kind].indexOf('0' + k) >= 0 ? people.get(guest).number : -13;
    }

    /** Texts: faults are found by walking over the tokens with a stack of what is open; what is told, by splitting. */
    static final class Texts {
        record Token(String word, int place) { }

        static final List<String> NAMES = List.of("debt", "back", "number", "seats", "seat", "wanted");
        static final List<String> KEYS = List.of("forgives", "lends", "joys", "or", "and", "not");

        static List<Token> tokens(String t) {
            List<Token> out = new ArrayList<>();
            java.util.regex.Matcher m = java.util.regex.Pattern.compile("[ \n]+|[a-z]+|[0-9]+|[^ \na-z0-9]", java.util.regex.Pattern.DOTALL).matcher(t);
            while (m.find()) if (m.group().charAt(0) != ' ' && m.group().charAt(0) != '\n') out.add(new Token(m.group(), m.start()));
            return out;
        }

        static boolean isToken(String w) {
            return NAMES.contains(w) || KEYS.contains(w) || w.matches("[0-9]{1,4}") || w.matches("[();+*<=-]");
        }

        static boolean isOperand(String w) { return NAMES.contains(w) || Character.isDigit(w.charAt(0)); }

        static int fault(String t) {
            List<Token> all = tokens(t);
            int at = 0;
            for (String part : List.of("forgives", "lends", "joys")) {
                if (at >= all.size()) return t.length();
                if (!all.get(at).word.equals(part)) return all.get(at).place;
                at++;
                int end = walk(all, at);
                if (end < 0) return -end - 1 < all.size() ? all.get(-end - 1).place : t.length();
                at = end;
            }
            return at < all.size() ? all.get(at).place : -1;
        }

        /** Walks over an expression with its ; from a token on: where it ends, or -1 less the token that can't stand. */
        static int walk(List<Token> all, int from) {
            List<Character> open = new ArrayList<>();
            List<Boolean> compared = new ArrayList<>(List.of(false));
            boolean wantsOne = true, mayBeNot = true;
            for (int at = from; at < all.size(); at++) {
                String w = all.get(at).word;
                if (!isToken(w)) return -1 - at;
                int level = compared.size() - 1;
                if (wantsOne) {
                    boolean opens = w.equals("(") || w.equals("-") || w.equals("not") && mayBeNot;
                    if (opens && open.size() == 5) return -1 - at;
                    if (w.equals("(")) {
                        open.add('(');
                        compared.add(false);
                        mayBeNot = true;
                    } else if (w.equals("-")) {
                        open.add('-');
                        mayBeNot = false;
                    } else if (opens) {
                        open.add('n');
                    } else if (isOperand(w)) {
                        wantsOne = false;
                        close(open, '-');
                    } else return -1 - at;
                } else if ("+-*".contains(w)) {
                    wantsOne = true;
                    mayBeNot = false;
                } else if ("<=".contains(w)) {
                    if (compared.get(level)) return -1 - at;
                    compared.set(level, true);
                    wantsOne = true;
                    mayBeNot = false;
                } else if (w.equals("and") || w.equals("or")) {
                    close(open, 'n');
                    compared.set(level, false);
                    wantsOne = true;
                    mayBeNot = true;
                } else if (w.equals(")")) {
                    close(open, 'n');
                    if (open.isEmpty()) return -1 - at;
                    open.remove(open.size() - 1);
                    compared.remove(level);
                    close(open, '-');
                } else if (w.equals(";")) {
                    close(open, 'n');
                    return open.isEmpty() ? at + 1 : -1 - at;
                } else return -1 - at;
            }
            return -1 - all.size();
        }

        static void close(List<Character> open, char what) {
            while (!open.isEmpty() && open.get(open.size() - 1) == what) open.remove(open.size() - 1);
        }

        static int tell(String t, String part, int... facts) {
            List<String> words = new ArrayList<>();
            for (Token k : tokens(t)) words.add(k.word);
            int from = words.indexOf(part) + 1;
            int to = from;
            while (!words.get(to).equals(";")) to++;
            return value(words.subList(from, to), facts);
        }

        /** The last place of one of some signs that stands between two operands and in no brackets. */
        static int split(List<String> words, String... signs) {
            int depth = 0, last = -1;
            for (int i = 0; i < words.size(); i++) {
                String w = words.get(i);
                if (w.equals("(")) depth++;
                if (w.equals(")")) depth--;
                boolean behindOne = i > 0 && (isOperand(words.get(i - 1)) || words.get(i - 1).equals(")"));
                if (depth == 0 && behindOne && List.of(signs).contains(w)) last = i;
            }
            return last;
        }

        static int value(List<String> words, int[] facts) {
            String[][] orders = {{"or"}, {"and"}, {"not"}, {"<", "="}, {"+", "-"}, {"*"}};
            for (String[] signs : orders) {
                if (signs[0].equals("not")) {
                    if (words.get(0).equals("not")) return value(words.subList(1, words.size()), facts) == 0 ? 1 : 0;
                    continue;
                }
                int at = split(words, signs);
                if (at < 0) continue;
                int a = value(words.subList(0, at), facts), b = value(words.subList(at + 1, words.size()), facts);
                return switch (words.get(at)) {
                    case "or" -> a != 0 || b != 0 ? 1 : 0;
                    case "and" -> a != 0 && b != 0 ? 1 : 0;
                    case "<" -> a < b ? 1 : 0;
                    case "=" -> a == b ? 1 : 0;
                    case "+" -> a + b;
                    case "-" -> a - b;
                    default -> a * b;
                };
            }
            String w = words.get(0);
            if (w.equals("-")) return -value(words.subList(1, words.size()), facts);
            if (w.equals("(")) return value(words.subList(1, words.size() - 1), facts);
            return NAMES.contains(w) ? facts[NAMES.indexOf(w)] : Integer.parseInt(w);
        }
    }
}
