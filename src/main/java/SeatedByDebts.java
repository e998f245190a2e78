import java.util.Arrays;

/** People who owe each other, seated at dinner by what is owed; ../shared/DOC.md tells what each call answers. */
public final class SeatedByDebts {
    public static final int NONE = -1, BAD = -2, STATE = -3, FULL = -4;
    public static final long NO = -4611686018427387904L;

    private static final int NOTHING = -11, OUTSIDE = -12, OTHER_SORT = -13, BELOW_ZERO = -14;
    private static final int NO_TABLE = -100000, FAULT_BASE = -100;
    private static final int MOST_PEOPLE = 7, MOST_NUMBER = 9, MOST_OWED = 999, RUIN = 1000, MOST_DINNERS = 999;
    private static final int MOST_TEXTS = 6, MOST_SHEETS = 4, MOST_RUN = 20, MOST_SEEDS = 20;
    private static final int MISSING = -1, BYTES = 0, SHORTS = 1, INTS = 2;

    private final Party party = new Party();
    private final Party kept = new Party();
    /** What is only thought of is done to this one, so that the true one needn't be mended. */
    private final Party thought = new Party();
    private final Manners manners = new Manners();
    private final Seating seating = new Seating();
    private final Reader reader = new Reader();
    private final Sheet[] sheets = new Sheet[MOST_SHEETS];
    private int texts = 1;
    private boolean isKept = false;

    public SeatedByDebts() {
        for (int i = 0; i < MOST_SHEETS; i++) {
            sheets[i] = new Sheet();
        }
    }

    // ---- people, debts

    public int set(int what, int of, int v) {
        switch (what) {
            case 0:
                return setRound(v);
            case 1:
                return setDinners(v);
            case 2:
                return setNumber(of, v);
            case 3:
                return setWanted(of, v);
            default:
                return BAD;
        }
    }

    private int setRound(int v) {
        if (!isWithin(v, 0, 1)) {
            return BAD;
        }
        int was = party.round;
        party.round = v;
        return was;
    }

    private int setDinners(int v) {
        if (!isWithin(v, 0, MOST_DINNERS)) {
            return BAD;
        }
        int was = party.dinners;
        party.dinners = v;
        return was;
    }

    private int setNumber(int of, int v) {
        if (!party.has(of) || !isWithin(v, 0, MOST_NUMBER)) {
            return BAD;
        }
        int was = party.numbers[of];
        party.numbers[of] = v;
        return was;
    }

    private int setWanted(int of, int v) {
        if (!party.has(of) || v != NONE && !party.has(v) || v == of) {
            return BAD;
        }
        int was = party.wants[of];
        party.wants[of] = v;
        return was;
    }

    public int guest(int kind, int number) {
        if (!Kinds.isKind(kind) || !isWithin(number, 0, MOST_NUMBER)) {
            return BAD;
        }
        return party.people >= MOST_PEOPLE ? FULL : party.welcome(kind, number);
    }

    public int owe(int one, int other, int v) {
        if (!party.hasBoth(one, other) || !isWithin(v, 0, MOST_OWED)) {
            return BAD;
        }
        int was = party.debt(one, other);
        party.setDebt(one, other, v);
        return was;
    }

    public int told(int of, int what) {
        if (what == 0) {
            return party.round;
        }
        if (what == 1) {
            return party.dinners;
        }
        return party.has(of) ? toldOfOne(of, what) : BAD;
    }

    private int toldOfOne(int of, int what) {
        switch (what) {
            case 2:
                return party.numbers[of];
            case 3:
                return party.wants[of];
            case 4:
                return party.kinds[of];
            case 5:
                return party.creditor(of, party.everybody());
            case 6:
                return party.wish(of, party.everybody()) == NONE ? 0 : 1;
            case 7:
                return party.owesInAll(of);
            default:
                return isWithin(what, 10, 16) && party.has(what - 10) ? party.debt(of, what - 10) : BAD;
        }
    }

    // ---- texts

    public int feed(int letter) {
        if (!isWithin(letter, 0, 255)) {
            return BAD;
        }
        return reader.take(letter) ? reader.size : FULL;
    }

    public int text() {
        if (texts >= MOST_TEXTS) {
            return FULL;
        }
        int fault = reader.read();
        reader.size = 0;
        if (fault != NONE) {
            return FAULT_BASE - fault;
        }
        manners.rules[texts] = reader.rule();
        texts++;
        return texts - 1;
    }

    public int force(int text) {
        if (!isWithin(text, 0, texts - 1)) {
            return BAD;
        }
        int was = party.rule;
        party.rule = text;
        return was;
    }

    // ---- tables, dinners

    public int table(int sheet, int what) {
        if (!isSheet(sheet) || !isWithin(what, 0, 2) || !isTable(sheets[sheet])) {
            return NO_TABLE;
        }
        if (what == 0) {
            return seating.firstWronged() == NONE ? 1 : 0;
        }
        if (what == 1) {
            return seating.joy(manners, party);
        }
        thought.become(party);
        seating.hold(manners, thought);
        return thought.owed();
    }

    public int dine(int sheet) {
        if (!isSheet(sheet)) {
            return BAD;
        }
        if (sheets[sheet].sort == MISSING) {
            return NOTHING;
        }
        if (!isTable(sheets[sheet])) {
            return BAD;
        }
        if (party.dinners >= MOST_DINNERS) {
            return STATE;
        }
        seating.hold(manners, party);
        party.dinners++;
        return party.owed();
    }

    /** Whether a sheet tells a table; if so, that is laid, with those who sit at it invited. */
    private boolean isTable(Sheet told) {
        if (told.sort == MISSING || told.size > party.people) {
            return false;
        }
        int among = 0;
        for (int i = 0; i < told.size && i < MOST_PEOPLE; i++) {
            int one = told.row[i];
            if (!party.has(one) || Party.isIn(among, one)) {
                return false;
            }
            among |= 1 << one;
            seating.seats[i] = one;
        }
        seating.invite(party, among, NONE);
        return true;
    }

    public int tables(int what) {
        switch (what) {
            case 0:
                return lawfulTables(party);
            case 1:
                return isGladdest(party) ? seating.digits() : 0;
            case 2:
                return isGladdest(party) ? seating.bestWorth : 0;
            case 3:
                return isClearest() ? seating.digits() : 0;
            case 4:
                return isClearest() ? party.owed() - seating.bestWorth : NONE;
            default:
                return BAD;
        }
    }

    private int lawfulTables(Party of) {
        seating.invite(of, of.everybody(), NONE);
        return seating.countUpTo(Integer.MAX_VALUE);
    }

    private boolean isAnyTable(Party of, int among, int excused) {
        seating.invite(of, among, excused);
        return seating.countUpTo(1) > 0;
    }

    private boolean isGladdest(Party of) {
        seating.invite(of, of.everybody(), NONE);
        seating.weigh(manners, of, false);
        return seating.findBest();
    }

    private boolean isClearest() {
        thought.become(party);
        seating.invite(thought, thought.everybody(), NONE);
        seating.weigh(manners, thought, true);
        return seating.findBest();
    }

    // ---- what would be best

    public int bars() {
        if (isAnyTable(party, party.everybody(), NONE)) {
            return NONE;
        }
        for (int one = 0; one < party.people; one++) {
            if (isAnyTable(party, party.everybody(), one)) {
                return one;
            }
        }
        return NONE;
    }

    public int borrow(int one, int other) {
        if (!party.hasBoth(one, other)) {
            return BAD;
        }
        int needed = 1;
        for (int rival = 0; rival < party.people; rival++) {
            if (rival != one && rival != other) {
                // of like ones the first is the creditor, so those ahead must be outdone
                int least = party.debt(one, rival) + (rival < other ? 1 : 0);
                needed = Math.max(needed, least);
            }
        }
        return needed > MOST_OWED ? NONE : Math.max(0, needed - party.debt(one, other));
    }

    public int company(int what) {
        if (!isWithin(what, 0, 1)) {
            return BAD;
        }
        int bits = largestCompany();
        return what == 0 ? bits : Integer.bitCount(bits);
    }

    private int largestCompany() {
        for (int size = party.people; size > 0; size--) {
            for (int bits = 1; bits <= party.everybody(); bits++) {
                if (Integer.bitCount(bits) == size && isAnyTable(party, bits, NONE)) {
                    return bits;
                }
            }
        }
        return 0;
    }

    public int run(int n, int what) {
        if (!isWithin(n, 0, MOST_RUN) || !isWithin(what, 0, 2)) {
            return BAD;
        }
        thought.become(party);
        int held = 0;
        while (held < n && isGladdest(thought)) {
            seating.layBest();
            seating.hold(manners, thought);
            held++;
        }
        if (what == 0) {
            return held;
        }
        return what == 1 ? thought.owed() : thought.ruined();
    }

    // ---- tables that were told

    public int tells(int sheet, int one, int what) {
        if (!isSheet(sheet) || !party.has(one) || !isTellable(one, what)) {
            return BAD;
        }
        if (sheets[sheet].sort == MISSING) {
            return NOTHING;
        }
        if (!isTable(sheets[sheet]) || seating.size != party.people) {
            return BAD;
        }
        if (what == 0) {
            return seating.firstWronged();
        }
        thought.become(party);
        if (what == 1) {
            return fittingKinds(one);
        }
        if (what == 2) {
            return fittingNumbers(one);
        }
        return what < 20 ? fittingDebts(one, what - 10) : greatestDebt(one, what - 20);
    }

    private boolean isTellable(int one, int what) {
        if (isWithin(what, 0, 2)) {
            return true;
        }
        return isWithin(what, 10, 29) && party.hasBoth(one, what % 10);
    }

    private int fittingKinds(int one) {
        int bits = 0;
        for (int kind = 0; kind < Kinds.KINDS; kind++) {
            thought.kinds[one] = kind;
            bits |= wouldFit(one) ? 1 << kind : 0;
        }
        return bits;
    }

    private int fittingNumbers(int one) {
        int bits = 0;
        for (int number = 0; number <= MOST_NUMBER; number++) {
            thought.numbers[one] = number;
            bits |= wouldFit(one) ? 1 << number : 0;
        }
        return bits;
    }

    private int fittingDebts(int one, int other) {
        int fitting = 0;
        for (int v = 0; v <= MOST_OWED; v++) {
            thought.setDebt(one, other, v);
            fitting += wouldFit(one) ? 1 : 0;
        }
        return fitting;
    }

    private int greatestDebt(int one, int other) {
        for (int v = MOST_OWED; v >= 0; v--) {
            thought.setDebt(one, other, v);
            if (wouldFit(one)) {
                return v;
            }
        }
        return NONE;
    }

    /** Whether the table that is laid would be lawful, if one were as thought: the others wish as they did. */
    private boolean wouldFit(int one) {
        seating.wishes[one] = thought.wish(one, seating.among);
        return seating.firstWronged() == NONE;
    }

    public int film(int sheet) {
        if (!isSheet(sheet)) {
            return BAD;
        }
        // that there is none is no refusal: the sheet is a row of nobody then
        int sitting = isGladdest(party) ? seating.size : 0;
        sheets[sheet].become(BYTES, sitting);
        for (int i = 0; i < sitting; i++) {
            sheets[sheet].put(i, seating.best[i]);
        }
        return sitting;
    }

    public int drawn(int seed) {
        thought.become(party);
        thought.drawDebts(seed);
        return lawfulTables(thought);
    }

    public long chance(int seed, int n, int part) {
        if (!isWithin(n, 1, MOST_SEEDS) || !isWithin(part, 0, 1)) {
            return NO;
        }
        thought.become(party);
        int having = 0;
        for (int i = 0; i < n; i++) {
            thought.drawDebts(seed + i);
            having += isAnyTable(thought, thought.everybody(), NONE) ? 1 : 0;
        }
        return (part == 0 ? having : n) / commonDivisor(having, n);
    }

    /** At least 1, whatever is given. */
    private static int commonDivisor(int a, int b) {
        for (int divisor = b; divisor > 1; divisor--) {
            if (a % divisor == 0 && b % divisor == 0) {
                return divisor;
            }
        }
        return 1;
    }

    public int image() {
        kept.become(party);
        isKept = true;
        return party.people;
    }

    public int back() {
        if (!isKept) {
            return STATE;
        }
        party.become(kept);
        return party.people;
    }

    public int count(int what) {
        switch (what) {
            case 0:
                return party.people;
            case 1:
                return party.owed();
            case 2:
                return party.ruined();
            case 3:
                return party.dinners;
            case 4:
                return texts;
            case 5:
                return reader.size;
            case 6:
                return party.rule;
            default:
                return BAD;
        }
    }

    // ---- the host

    public int sheet(int sheet, int sort, int n) {
        if (!isSheet(sheet) || sort != MISSING && !isSort(sort)) {
            return BAD;
        }
        if (sort == MISSING) {
            sheets[sheet].become(MISSING, 0);
            return 1;
        }
        if (n > Sheet.MOST_ITEMS) {
            return BAD;
        }
        if (n < 0) {
            return BELOW_ZERO;
        }
        sheets[sheet].become(sort, n);
        return 1;
    }

    public int cell(int sheet, int i, int v) {
        if (!isSheet(sheet)) {
            return BAD;
        }
        if (sheets[sheet].sort == MISSING) {
            return NOTHING;
        }
        if (!sheets[sheet].hasItem(i)) {
            return OUTSIDE;
        }
        sheets[sheet].put(i, v);
        return 1;
    }

    public int copy(int sheet, int i, int other, int j, int n) {
        if (!isSheet(sheet) || !isSheet(other)) {
            return BAD;
        }
        Sheet source = sheets[sheet];
        Sheet target = sheets[other];
        if (source.sort == MISSING || target.sort == MISSING) {
            return NOTHING;
        }
        if (source.sort != target.sort) {
            return OTHER_SORT;
        }
        if (!source.hasItems(i, n) || !target.hasItems(j, n)) {
            return OUTSIDE;
        }
        System.arraycopy(source.row, i, target.row, j, n);
        return n;
    }

    public int guests(int sheet, int sort, int from, int n) {
        if (!isSheet(sheet) || !isSort(sort) || !isWithin(n, 0, MOST_PEOPLE)) {
            return BAD;
        }
        Sheet told = sheets[sheet];
        // a missing sheet is of no other sort: it may be taken for any
        if (told.sort != MISSING && told.sort != sort) {
            return OTHER_SORT;
        }
        return told.sort == MISSING ? NOTHING : welcomeAll(told, from, n);
    }

    private int welcomeAll(Sheet told, int from, int n) {
        int came = 0;
        for (int k = 0; k < n; k++) {
            if (!told.hasItems(from, 2 * k + 2)) {
                return OUTSIDE;
            }
            int kind = told.row[from + 2 * k];
            int number = told.row[from + 2 * k + 1];
            came += guest(kind, number) >= 0 ? 1 : 0;
        }
        return came;
    }

    public int taken(int guest, int k) {
        if (!Kinds.isKind(k)) {
            return BAD;
        }
        if (!party.has(guest)) {
            return NOTHING;
        }
        return Kinds.isUnder(party.kinds[guest], k) ? party.numbers[guest] : OTHER_SORT;
    }

    private static boolean isSheet(int sheet) {
        return isWithin(sheet, 0, MOST_SHEETS - 1);
    }

    private static boolean isSort(int sort) {
        return isWithin(sort, BYTES, INTS);
    }

    private static boolean isWithin(int v, int least, int most) {
        return v >= least && v <= most;
    }

    private static int bounded(int v, int least, int most) {
        return v < least ? least : v > most ? most : v;
    }

    /** What each kind of people does. */
    private static final class Kinds {
        static final int KINDS = 6;
        private static final int MISER = 1, HOST = 2, WIDOW = 3, BISHOP = 4, CHILD = 5;
        private static final int[] ABOVE = {NONE, 0, 0, MISER, HOST, 0};

        private Kinds() {
        }

        static boolean isKind(int kind) {
            return isWithin(kind, 0, KINDS - 1);
        }

        static boolean isUnder(int kind, int other) {
            int at = kind;
            for (int step = 0; step < KINDS && isKind(at); step++) {
                if (at == other) {
                    return true;
                }
                at = ABOVE[at];
            }
            return false;
        }

        static boolean must(int kind, int number, int owed) {
            switch (kind) {
                case MISER:
                    return owed > 10 * number;
                case HOST:
                    return false;
                case WIDOW:
                    return number % 2 == 0 && owed > 10 * number;
                case BISHOP:
                    return owed > 500;
                case CHILD:
                    return owed % 2 == 1;
                default:
                    return true;
            }
        }

        static int letsGo(int kind, int number, int owed, int v) {
            switch (kind) {
                case MISER:
                    return v / 2;
                case HOST:
                    return 2 * v;
                case WIDOW:
                    return v / 2 + number;
                case BISHOP:
                    return owed < 100 ? owed : 2 * v;
                case CHILD:
                    return 0;
                default:
                    return v;
            }
        }

        static int lends(int kind, int number, int v) {
            switch (kind) {
                case MISER:
                case WIDOW:
                    return 0;
                case HOST:
                    return v + number;
                case BISHOP:
                    return (v + number) / 2;
                default:
                    return v;
            }
        }

        static int glad(int kind, int number, int v, boolean wanted) {
            int asGuest = wanted ? v + 10 : v;
            switch (kind) {
                case MISER:
                case WIDOW:
                    return wanted ? asGuest : asGuest - 5;
                case HOST:
                    return 2 * asGuest;
                case BISHOP:
                    return 2 * asGuest + number;
                case CHILD:
                    return 3;
                default:
                    return asGuest;
            }
        }
    }

    /** All that an image keeps: the people, what they owe, and how they dine. */
    private static final class Party {
        int round = 1;
        int dinners = 0;
        int rule = 0;
        int people = 0;
        final int[] kinds = new int[MOST_PEOPLE];
        final int[] numbers = new int[MOST_PEOPLE];
        final int[] wants = new int[MOST_PEOPLE];
        private final int[] debts = new int[MOST_PEOPLE * MOST_PEOPLE];

        void become(Party other) {
            round = other.round;
            dinners = other.dinners;
            rule = other.rule;
            people = other.people;
            System.arraycopy(other.kinds, 0, kinds, 0, MOST_PEOPLE);
            System.arraycopy(other.numbers, 0, numbers, 0, MOST_PEOPLE);
            System.arraycopy(other.wants, 0, wants, 0, MOST_PEOPLE);
            System.arraycopy(other.debts, 0, debts, 0, debts.length);
        }

        int welcome(int kind, int number) {
            int one = people;
            if (one >= MOST_PEOPLE) {
                return FULL;
            }
            people++;
            kinds[one] = kind;
            numbers[one] = number;
            wants[one] = NONE;
            for (int other = 0; other < people; other++) {
                setDebt(one, other, 0);
                setDebt(other, one, 0);
            }
            return one;
        }

        boolean has(int one) {
            return one >= 0 && one < people;
        }

        boolean hasBoth(int one, int other) {
            return has(one) && has(other) && one != other;
        }

        int everybody() {
            return (1 << people) - 1;
        }

        static boolean isIn(int among, int one) {
            return (among >> one & 1) == 1;
        }

        int debt(int one, int other) {
            return debts[one * MOST_PEOPLE + other];
        }

        void setDebt(int one, int other, int v) {
            debts[one * MOST_PEOPLE + other] = v;
        }

        int creditor(int one, int among) {
            int first = NONE;
            int most = 0;
            for (int other = 0; other < people; other++) {
                if (isIn(among, other) && debt(one, other) > most) {
                    first = other;
                    most = debt(one, other);
                }
            }
            return first;
        }

        /** The creditor beside whom one must sit; none, if one needn't. */
        int wish(int one, int among) {
            int creditor = creditor(one, among);
            if (creditor == NONE || !Kinds.must(kinds[one], numbers[one], debt(one, creditor))) {
                return NONE;
            }
            return creditor;
        }

        int owesInAll(int one) {
            int sum = 0;
            for (int other = 0; other < people; other++) {
                sum += debt(one, other);
            }
            return sum;
        }

        int owed() {
            int sum = 0;
            for (int one = 0; one < people; one++) {
                sum += owesInAll(one);
            }
            return sum;
        }

        int ruined() {
            int bits = 0;
            for (int one = 0; one < people; one++) {
                bits |= owesInAll(one) >= RUIN ? 1 << one : 0;
            }
            return bits;
        }

        void drawDebts(int seed) {
            int z = seed;
            for (int one = 0; one < people; one++) {
                for (int other = 0; other < people; other++) {
                    if (one != other) {
                        z = z * 1103515245 + 12345;
                        setDebt(one, other, (z >>> 9) % 100);
                    }
                }
            }
        }
    }

    /** A text that was read: three expressions, one behind the other, each as steps on a stack. */
    private static final class Rule {
        static final int FORGIVES = 0, LENDS = 1, JOYS = 2;
        /** A step below NAMES is that number; below SIGNS a name; else what is done, by its token. */
        static final int NAMES = 10000, SIGNS = 20000;
        private static final int MOST_TOLD = 99;

        private final int[] steps;
        private final int lendsFrom;
        private final int joysFrom;
        private final int[] stack;

        Rule(int[] steps, int lendsFrom, int joysFrom) {
            this.steps = steps;
            this.lendsFrom = lendsFrom;
            this.joysFrom = joysFrom;
            this.stack = new int[steps.length];
        }

        int tell(int part, int[] facts) {
            int from = part == FORGIVES ? 0 : part == LENDS ? lendsFrom : joysFrom;
            int to = part == FORGIVES ? lendsFrom : part == LENDS ? joysFrom : steps.length;
            int top = 0;
            for (int at = from; at < to; at++) {
                int step = steps[at];
                if (step < SIGNS) {
                    if (top < stack.length) {
                        stack[top] = step < NAMES ? step : facts[step - NAMES];
                        top++;
                    }
                } else if (step == SIGNS + Reader.NEGATE || step == SIGNS + Reader.NOT) {
                    if (top > 0) {
                        stack[top - 1] = turned(step - SIGNS, stack[top - 1]);
                    }
                } else if (top > 1) {
                    top--;
                    stack[top - 1] = joined(step - SIGNS, stack[top - 1], stack[top]);
                }
            }
            return bounded(top > 0 ? stack[0] : 0, part == JOYS ? -MOST_TOLD : 0, MOST_TOLD);
        }

        private static int turned(int token, int v) {
            if (token == Reader.NEGATE) {
                return -v;
            }
            return v == 0 ? 1 : 0;
        }

        private static int joined(int token, int a, int b) {
            switch (token) {
                case Reader.OR:
                    return a != 0 || b != 0 ? 1 : 0;
                case Reader.AND:
                    return a != 0 && b != 0 ? 1 : 0;
                case '<':
                    return a < b ? 1 : 0;
                case '=':
                    return a == b ? 1 : 0;
                case '+':
                    return a + b;
                case '-':
                    return a - b;
                default:
                    return a * b;
            }
        }
    }

    /** The tape, and what reads a text from it. */
    private static final class Reader {
        /** Tokens; a sign's token is the sign itself, NEGATE is never read but stands in steps. */
        static final int END = 0, WRONG = 1, NUMERAL = 2, NAME = 3, NEGATE = 4;
        static final int FORGIVES = 5, LENDS = 6, JOYS = 7, OR = 8, AND = 9, NOT = 10;
        private static final int MOST_LETTERS = 160, MOST_DIGITS = 4, MOST_OPEN = 5;
        private static final int KEYS = 6, WORDS = 12;

        private final int[] tape = new int[MOST_LETTERS];
        int size = 0;
        private int at;
        private int token;
        private int tokenPlace;
        private int tokenValue;
        private int fault;
        private final int[] steps = new int[MOST_LETTERS];
        private int stepCount;
        private int lendsFrom;
        private int joysFrom;

        boolean take(int letter) {
            if (size >= MOST_LETTERS) {
                return false;
            }
            tape[size] = letter;
            size++;
            return true;
        }

        /** Reads the tape: the place of its fault, or none. */
        int read() {
            at = 0;
            stepCount = 0;
            fault = NONE;
            next();
            expect(FORGIVES);
            readEither(0);
            expect(';');
            lendsFrom = stepCount;
            expect(LENDS);
            readEither(0);
            expect(';');
            joysFrom = stepCount;
            expect(JOYS);
            readEither(0);
            expect(';');
            if (token != END) {
                fail();
            }
            return fault;
        }

        Rule rule() {
            return new Rule(Arrays.copyOf(steps, stepCount), lendsFrom, joysFrom);
        }

        private void readEither(int open) {
            readBoth(open);
            for (int i = 0; i < MOST_LETTERS && token == OR; i++) {
                next();
                readBoth(open);
                add(Rule.SIGNS + OR);
            }
        }

        private void readBoth(int open) {
            readNot(open);
            for (int i = 0; i < MOST_LETTERS && token == AND; i++) {
                next();
                readNot(open);
                add(Rule.SIGNS + AND);
            }
        }

        private void readNot(int open) {
            if (token == NOT) {
                if (opens(open)) {
                    readNot(open + 1);
                    add(Rule.SIGNS + NOT);
                }
                return;
            }
            readSum(open);
            if (token == '<' || token == '=') {
                int sign = token;
                next();
                readSum(open);
                add(Rule.SIGNS + sign);
            }
        }

        private void readSum(int open) {
            readTerm(open);
            for (int i = 0; i < MOST_LETTERS && (token == '+' || token == '-'); i++) {
                int sign = token;
                next();
                readTerm(open);
                add(Rule.SIGNS + sign);
            }
        }

        private void readTerm(int open) {
            readOne(open);
            for (int i = 0; i < MOST_LETTERS && token == '*'; i++) {
                next();
                readOne(open);
                add(Rule.SIGNS + '*');
            }
        }

        private void readOne(int open) {
            switch (token) {
                case NUMERAL:
                    add(tokenValue);
                    next();
                    return;
                case NAME:
                    add(Rule.NAMES + tokenValue);
                    next();
                    return;
                case '-':
                    if (opens(open)) {
                        readOne(open + 1);
                        add(Rule.SIGNS + NEGATE);
                    }
                    return;
                case '(':
                    if (opens(open)) {
                        readEither(open + 1);
                        expect(')');
                    }
                    return;
                default:
                    fail();
            }
        }

        /** Steps over a token that opens something, if so many may be open. */
        private boolean opens(int open) {
            if (open >= MOST_OPEN) {
                fail();
                return false;
            }
            next();
            return true;
        }

        private void expect(int wanted) {
            if (token == wanted) {
                next();
            } else {
                fail();
            }
        }

        /** The token that fails stays, as a wrong one: so nothing behind it is read, and the first fault is told. */
        private void fail() {
            if (fault == NONE) {
                fault = tokenPlace;
            }
            token = WRONG;
        }

        private void add(int step) {
            if (stepCount < MOST_LETTERS) {
                steps[stepCount] = step;
                stepCount++;
            }
        }

        private void next() {
            while (at < size && isBlank(tape[at])) {
                at++;
            }
            tokenPlace = at;
            if (at >= size) {
                token = END;
            } else if (isSmallLetter(tape[at])) {
                readWord();
            } else if (isDigit(tape[at])) {
                readNumeral();
            } else {
                token = isSign(tape[at]) ? tape[at] : WRONG;
                at++;
            }
        }

        private void readWord() {
            while (at < size && isSmallLetter(tape[at])) {
                at++;
            }
            token = WRONG;
            for (int word = 0; word < WORDS; word++) {
                if (isSpelled(spelling(word))) {
                    token = word < KEYS ? FORGIVES + word : NAME;
                    tokenValue = word - KEYS;
                }
            }
        }

        private boolean isSpelled(String word) {
            if (word.length() != at - tokenPlace) {
                return false;
            }
            for (int i = 0; i < word.length(); i++) {
                if (tape[tokenPlace + i] != word.charAt(i)) {
                    return false;
                }
            }
            return true;
        }

        /** The keys in the order of their tokens, then the names in the order of the facts. */
        private static String spelling(int word) {
            switch (word) {
                case 0:
                    return "forgives";
                case 1:
                    return "lends";
                case 2:
                    return "joys";
                case 3:
                    return "or";
                case 4:
                    return "and";
                case 5:
                    return "not";
                case 6:
                    return "debt";
                case 7:
                    return "back";
                case 8:
                    return "number";
                case 9:
                    return "seats";
                case 10:
                    return "seat";
                default:
                    return "wanted";
            }
        }

        private void readNumeral() {
            int v = 0;
            while (at < size && isDigit(tape[at])) {
                v = v * 10 + (tape[at] - '0');
                at++;
            }
            token = at - tokenPlace > MOST_DIGITS ? WRONG : NUMERAL;
            tokenValue = v;
        }

        private static boolean isBlank(int letter) {
            return letter == 32 || letter == 10;
        }

        private static boolean isSmallLetter(int letter) {
            return letter >= 'a' && letter <= 'z';
        }

        private static boolean isDigit(int letter) {
            return letter >= '0' && letter <= '9';
        }

        private static boolean isSign(int letter) {
            switch (letter) {
                case '(':
                case ')':
                case ';':
                case '+':
                case '-':
                case '*':
                case '<':
                case '=':
                    return true;
                default:
                    return false;
            }
        }
    }

    /** What two neighbours do to each other, by the rule. */
    private static final class Manners {
        final Rule[] rules = new Rule[MOST_TEXTS];
        private final int[] facts = new int[6];

        Manners() {
            // forgives 5 ; lends 2 ; joys 1 ; which stands for those not yet read, too, so that none is null
            Rule first = new Rule(new int[] {5, 2, 1}, 1, 2);
            for (int i = 0; i < MOST_TEXTS; i++) {
                rules[i] = first;
            }
        }

        private int[] factsOf(Party party, int one, int neighbour, int seat, int size) {
            facts[0] = party.debt(neighbour, one);
            facts[1] = party.debt(one, neighbour);
            facts[2] = party.numbers[one];
            facts[3] = size;
            facts[4] = seat;
            facts[5] = party.wants[one] == neighbour ? 1 : 0;
            return facts;
        }

        private void forgive(Party party, int one, int neighbour, int seat, int size) {
            int owed = party.debt(neighbour, one);
            int v = rules[party.rule].tell(Rule.FORGIVES, factsOf(party, one, neighbour, seat, size));
            int gone = Kinds.letsGo(party.kinds[one], party.numbers[one], owed, v);
            party.setDebt(neighbour, one, owed - bounded(gone, 0, owed));
        }

        private void lend(Party party, int one, int neighbour, int seat, int size) {
            int owed = party.debt(neighbour, one);
            int v = rules[party.rule].tell(Rule.LENDS, factsOf(party, one, neighbour, seat, size));
            int lent = Kinds.lends(party.kinds[one], party.numbers[one], v);
            party.setDebt(neighbour, one, bounded(owed + lent, owed, MOST_OWED));
        }

        /** The dinner of one pair: a on the first-named seat, b on the other. */
        void meet(Party party, int a, int seatOfA, int b, int seatOfB, int size) {
            forgive(party, b, a, seatOfB, size);
            forgive(party, a, b, seatOfA, size);
            lend(party, b, a, seatOfB, size);
            lend(party, a, b, seatOfA, size);
        }

        private int glad(Party party, int one, int neighbour, int seat, int size) {
            int v = rules[party.rule].tell(Rule.JOYS, factsOf(party, one, neighbour, seat, size));
            return Kinds.glad(party.kinds[one], party.numbers[one], v, party.wants[one] == neighbour);
        }

        int joyOfPair(Party party, int a, int seatOfA, int b, int seatOfB, int size) {
            return glad(party, a, b, seatOfA, size) + glad(party, b, a, seatOfB, size);
        }

        /** By how much less the two would owe each other behind their dinner. */
        int clearedByPair(Party party, int a, int seatOfA, int b, int seatOfB, int size) {
            int owedByA = party.debt(a, b);
            int owedByB = party.debt(b, a);
            meet(party, a, seatOfA, b, seatOfB, size);
            int left = party.debt(a, b) + party.debt(b, a);
            party.setDebt(a, b, owedByA);
            party.setDebt(b, a, owedByB);
            return owedByA + owedByB - left;
        }
    }

    /** A table that is laid for those invited, and the search for lawful ones. */
    private static final class Seating {
        final int[] seats = new int[MOST_PEOPLE];
        /** Of each of people whom they must have beside them, or none. */
        final int[] wishes = new int[MOST_PEOPLE];
        final int[] best = new int[MOST_PEOPLE];
        int bestWorth;
        int among;
        int size;
        private boolean round;
        private boolean judged;
        private int found;
        private int enough;
        /**
         * What a pair adds to a table, by its first seat and both people. No two sit beside each other twice at one
         * table, so a pair's part in it does not hang on the other pairs, and is found but once.
         */
        private final int[] worth = new int[MOST_PEOPLE * MOST_PEOPLE * MOST_PEOPLE];
        /** With so many seats taken, the most that can still be added; nothing behind the last pair. */
        private final int[] hope = new int[MOST_PEOPLE + 2];

        void invite(Party party, int bits, int excused) {
            among = bits;
            size = Integer.bitCount(bits);
            round = party.round == 1;
            for (int one = 0; one < MOST_PEOPLE; one++) {
                boolean asked = Party.isIn(bits, one) && one != excused;
                wishes[one] = asked ? party.wish(one, bits) : NONE;
            }
        }

        private int pairs() {
            return round && size >= 3 ? size : Math.max(0, size - 1);
        }

        private int seatBehind(int seat) {
            return seat + 1 < size ? seat + 1 : 0;
        }

        private boolean isContent(int seat) {
            int wish = wishes[seats[seat]];
            if (wish == NONE) {
                return true;
            }
            boolean before = (seat > 0 || round) && seats[seat > 0 ? seat - 1 : size - 1] == wish;
            boolean behind = (seat + 1 < size || round) && seats[seatBehind(seat)] == wish;
            return before || behind;
        }

        int firstWronged() {
            for (int seat = 0; seat < size; seat++) {
                if (!isContent(seat)) {
                    return seat;
                }
            }
            return NONE;
        }

        int joy(Manners manners, Party party) {
            int sum = 0;
            for (int seat = 0; seat < pairs(); seat++) {
                int other = seatBehind(seat);
                sum += manners.joyOfPair(party, seats[seat], seat, seats[other], other, size);
            }
            return sum;
        }

        void hold(Manners manners, Party party) {
            for (int seat = 0; seat < pairs(); seat++) {
                int other = seatBehind(seat);
                manners.meet(party, seats[seat], seat, seats[other], other, size);
            }
        }

        /** How many lawful tables there are, as many as are enough at most. */
        int countUpTo(int most) {
            judged = false;
            found = 0;
            enough = most;
            place(0, 0, 0);
            return found;
        }

        /** Finds the first lawful table of most worth, as was weighed. */
        boolean findBest() {
            judged = true;
            found = 0;
            enough = Integer.MAX_VALUE;
            bestWorth = 0;
            place(0, 0, 0);
            return found > 0;
        }

        private void place(int seat, int taken, int sum) {
            if (seat >= size) {
                close(sum);
                return;
            }
            // what can but be as good as the best comes too late: of like ones the first is meant
            if (judged && found > 0 && sum + hope[seat] <= bestWorth) {
                return;
            }
            int open = seat == 0 && round ? among & -among : among & ~taken;
            for (int one = 0; one < MOST_PEOPLE && found < enough; one++) {
                if (Party.isIn(open, one)) {
                    seats[seat] = one;
                    if (isBearable(seat)) {
                        place(seat + 1, taken | 1 << one, sum + added(seat));
                    }
                }
            }
        }

        /** Whether the one ahead of this seat, who has both neighbours by now, is content. */
        private boolean isBearable(int seat) {
            if (seat == 0 || seat == 1 && round) {
                return true;
            }
            return isContent(seat - 1);
        }

        private int added(int seat) {
            return judged && seat > 0 ? worth[worthPlace(seat - 1, seats[seat - 1], seats[seat])] : 0;
        }

        private static int worthPlace(int seat, int a, int b) {
            return (seat * MOST_PEOPLE + a) * MOST_PEOPLE + b;
        }

        private void close(int sum) {
            if (size > 0 && !(isContent(size - 1) && isContent(0))) {
                return;
            }
            found++;
            if (!judged) {
                return;
            }
            int total = sum;
            if (pairs() == size && size > 0) {
                total += worth[worthPlace(size - 1, seats[size - 1], seats[0])];
            }
            if (found == 1 || total > bestWorth) {
                bestWorth = total;
                System.arraycopy(seats, 0, best, 0, size);
            }
        }

        /** Weighs all pairs on all seats, by joy or by what they clear; the party is as it was then. */
        void weigh(Manners manners, Party party, boolean clearing) {
            Arrays.fill(hope, 0);
            for (int seat = pairs() - 1; seat >= 0; seat--) {
                int other = seatBehind(seat);
                int most = Integer.MIN_VALUE;
                for (int a = 0; a < party.people; a++) {
                    for (int b = 0; b < party.people; b++) {
                        if (a != b) {
                            int v = clearing ? manners.clearedByPair(party, a, seat, b, other, size)
                                    : manners.joyOfPair(party, a, seat, b, other, size);
                            worth[worthPlace(seat, a, b)] = v;
                            most = Math.max(most, v);
                        }
                    }
                }
                hope[seat + 1] = hope[seat + 2] + most;
            }
            hope[0] = hope[1];
        }

        void layBest() {
            System.arraycopy(best, 0, seats, 0, size);
        }

        /** The best table as a number: a digit a seat, 1 more than who sits there. */
        int digits() {
            int number = 0;
            for (int seat = 0; seat < size; seat++) {
                number = number * 10 + best[seat] + 1;
            }
            return number;
        }
    }

    /** A row of numbers of a sort; missing at first. */
    private static final class Sheet {
        static final int MOST_ITEMS = 40;

        int sort = MISSING;
        int size = 0;
        final int[] row = new int[MOST_ITEMS];

        void become(int newSort, int newSize) {
            sort = newSort;
            size = newSize;
            Arrays.fill(row, 0);
        }

        boolean hasItem(int i) {
            return i >= 0 && i < size;
        }

        boolean hasItems(int from, int n) {
            return from >= 0 && n >= 0 && from <= size && n <= size - from;
        }

        void put(int i, int v) {
            row[i] = sort == BYTES ? (byte) v : sort == SHORTS ? (short) v : v;
        }
    }
}
