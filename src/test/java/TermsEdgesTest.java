/**
 * The boundary cases that ../shared/DOC.md names under 'What it is' and 'Terms', in its order, but for texts (see
 * TextEdgesTest). Each row begins with the words that it would fail by.
 */
public final class TermsEdgesTest {
    private static final int GUEST = 0, MISER = 1, HOST = 2, WIDOW = 3, BISHOP = 4, CHILD = 5;

    public static void main(String[] args) {
        whatItIs();
        people();
        owing();
        dinnersNumber();
        must();
        letsGo();
        lends();
        glad();
        creditor();
        tablesAndBeside();
        joy();
        dinner();
        ruined();
        gladdest();
        clearest();
        bars();
        borrow();
        company();
        dinnersInThought();
        toldTables();
        drawn();
        inSeeds();
        image();
        sheets();
        Due.end("TermsEdgesTest");
    }

    private static void says(String words, long got, long want) { Due.is(words, got, want); }

    private static SeatedByDebts guests(int n) { return Due.people(new int[2 * n]); }

    private static SeatedByDebts longTable(SeatedByDebts x) {
        x.set(0, 0, 0);
        return x;
    }

    private static void rule(SeatedByDebts x, String forgives, String lends, String joys) {
        x.force(Due.read(x, "forgives " + forgives + ";lends " + lends + ";joys " + joys + ";"));
    }

    private static void whatItIs() {
        SeatedByDebts x = guests(7);
        says("up to seven people", x.count(0), 7);
        says("up to seven people: an eighth", x.guest(0, 0), -4);
        says("1 ROUND (1, at first)", new SeatedByDebts().told(0, 0), 1);
        says("or long (0)", x.set(0, 0, 0), 1);
        Due.refused("ROUND or long: -1", x, () -> x.set(0, 0, -1), -2);
        Due.refused("ROUND or long: 2", x, () -> x.set(0, 0, 2), -2);
        SeatedByDebts y = guests(4);
        for (int call = 5; call <= 512; call++) says("at most 512 calls: call " + call, y.tables(0), 6);
    }

    private static void people() {
        SeatedByDebts x = new SeatedByDebts();
        for (int i = 0; i < 7; i++) says("PEOPLE (7 at most, numbered from 0)", x.guest(0, 9 - i), i);
        Due.refused("PEOPLE (7 at most)", x, () -> x.guest(0, 0), -4);
        for (int kind = GUEST; kind <= CHILD; kind++) says("a KIND: " + kind, Due.people(kind, 0).told(0, 4), kind);
        SeatedByDebts y = guests(2);
        Due.refused("a KIND: 0 .. 5, not -1", y, () -> y.guest(-1, 0), -2);
        Due.refused("a KIND: 0 .. 5, not 6", y, () -> y.guest(6, 0), -2);
        says("a NUMBER (0 .. 9): 0", y.set(2, 0, 0), 0);
        says("a NUMBER (0 .. 9): 9", y.set(2, 0, 9), 0);
        says("a NUMBER (0 .. 9): 9 is it then", y.told(0, 2), 9);
        Due.refused("a NUMBER (0 .. 9): not -1", y, () -> y.set(2, 0, -1), -2);
        Due.refused("a NUMBER (0 .. 9): not 10", y, () -> y.set(2, 0, 10), -2);
        Due.refused("a NUMBER (0 .. 9): nobody comes with -1", y, () -> y.guest(0, -1), -2);
        Due.refused("a NUMBER (0 .. 9): nobody comes with 10", y, () -> y.guest(0, 10), -2);
        says("a NUMBER (0 .. 9): one comes with 9", y.guest(0, 9), 2);
        says("WANT NONE (as one comes)", y.told(2, 3), -1);
        Due.refused("WANT one of PEOPLE beside them: not oneself", y, () -> y.set(3, 1, 1), -2);
        Due.refused("WANT one of PEOPLE: not number 3 of three", y, () -> y.set(3, 1, 3), -2);
        Due.refused("WANT one of PEOPLE or NONE: not -2", y, () -> y.set(3, 1, -2), -2);
        says("WANT one of PEOPLE: the last", y.set(3, 1, 2), -1);
        says("WANT one of PEOPLE: number 0", y.set(3, 1, 0), 2);
        says("or NONE", y.set(3, 1, -1), 0);
    }

    private static void owing() {
        SeatedByDebts x = guests(2);
        says("OWE each other 0 as one comes", x.told(0, 11), 0);
        says("OWE 0 .. 999: 999", x.owe(0, 1, 999), 0);
        Due.refused("OWE 0 .. 999: not 1000", x, () -> x.owe(0, 1, 1000), -2);
        Due.refused("OWE 0 .. 999: not -1", x, () -> x.owe(0, 1, -1), -2);
        says("OWE 0 .. 999: 0", x.owe(0, 1, 0), 999);
        x.owe(0, 1, 4);
        says("who comes OWES 0", x.told(x.guest(0, 0), 7), 0);
        says("who comes is OWED 0", x.told(0, 12), 0);
    }

    private static void dinnersNumber() {
        SeatedByDebts x = guests(1);
        says("DINNERS: 0 at first", x.told(0, 1), 0);
        says("DINNERS (0 .. 999): 999", x.set(1, 0, 999), 0);
        Due.refused("DINNERS (0 .. 999): not 1000", x, () -> x.set(1, 0, 1000), -2);
        Due.refused("DINNERS (0 .. 999): not -1", x, () -> x.set(1, 0, -1), -2);
        says("DINNERS (0 .. 999): 0", x.set(1, 0, 0), 999);
    }

    private static int must(int kind, int number, int owed) {
        SeatedByDebts x = Due.people(kind, number, 0, 0);
        x.owe(0, 1, owed);
        return x.told(0, 6);
    }

    private static void must() {
        for (int kind = GUEST; kind <= CHILD; kind++) {
            says("never, if there is no CREDITOR: kind " + kind, must(kind, 0, 0), 0);
            SeatedByDebts alone = Due.people(kind, 0);
            says("never, if there is no CREDITOR: kind " + kind + " alone", alone.told(0, 6), 0);
        }
        says("GUEST: yes, by 1", must(GUEST, 9, 1), 1);
        says("GUEST: yes, by 999", must(GUEST, 0, 999), 1);
        for (int number = 0; number <= 9; number++) {
            says("MISER: if d is above 10 times NUMBER: not as much, " + number, must(MISER, number, 10 * number), 0);
            says("MISER: if d is above 10 times NUMBER: 1 more, " + number, must(MISER, number, 10 * number + 1), 1);
            says("WIDOW: as a MISER: not as much, " + number, must(WIDOW, number, 10 * number), 0);
            says("WIDOW: but not if NUMBER is odd: 1 more, " + number, must(WIDOW, number, 10 * number + 1), 1 - number % 2);
            says("WIDOW: but not if NUMBER is odd: 999, " + number, must(WIDOW, number, 999), 1 - number % 2);
            says("HOST: no, by 999, " + number, must(HOST, number, 999), 0);
        }
        says("BISHOP: if d is above 500: not by 500", must(BISHOP, 0, 500), 0);
        says("BISHOP: if d is above 500: by 501", must(BISHOP, 9, 501), 1);
        int[] odd = {1, 3, 501, 997, 999};
        for (int d : odd) {
            says("CHILD: if d is odd: " + d, must(CHILD, 0, d), 1);
            says("CHILD: if d is odd: not by " + (d - 1), must(CHILD, 1, d - 1), 0);
        }
    }

    /** How much of what a CHILD owes is let go of (a CHILD lends and forgives nothing by this rule). */
    private static int letsGo(int kind, int number, int owed, int v) {
        SeatedByDebts x = Due.people(kind, number, CHILD, 0);
        rule(x, "" + v, "0", "0");
        x.owe(1, 0, owed);
        Due.lay(x, 0, 0, 1);
        x.dine(0);
        int lent = kind == HOST ? number : kind == BISHOP ? number / 2 : 0;
        return owed + lent - x.told(1, 10);
    }

    private static void letsGo() {
        says("GUEST: v, 99", letsGo(GUEST, 9, 100, 99), 99);
        says("GUEST: v, 0", letsGo(GUEST, 9, 100, 0), 0);
        says("LETS GO .. d, else the bound: GUEST, 98 of 98", letsGo(GUEST, 0, 98, 99), 98);
        says("LETS GO .. d, else the bound: GUEST, 99 of 99", letsGo(GUEST, 0, 99, 99), 99);
        says("LETS GO 0 .. d: GUEST, of nothing", letsGo(GUEST, 0, 0, 99), 0);
        says("MISER: half of a GUEST's: 98", letsGo(MISER, 9, 999, 98), 49);
        says("MISER: half (cut): 99", letsGo(MISER, 9, 999, 99), 49);
        says("MISER: half (cut): 1", letsGo(MISER, 9, 999, 1), 0);
        says("LETS GO .. d: MISER, half of 99 of 49", letsGo(MISER, 0, 49, 99), 49);
        says("LETS GO .. d: MISER, half of 99 of 48", letsGo(MISER, 0, 48, 99), 48);
        says("HOST: twice a GUEST's: 99", letsGo(HOST, 0, 999, 99), 198);
        says("HOST: twice a GUEST's: its NUMBER is no matter", letsGo(HOST, 9, 999, 99), 198);
        says("LETS GO .. d: HOST, 198 of 198", letsGo(HOST, 0, 198, 99), 198);
        says("LETS GO .. d: HOST, 197 of 197", letsGo(HOST, 0, 197, 99), 197);
        says("WIDOW: NUMBER more than a MISER: 0", letsGo(WIDOW, 0, 999, 99), 49);
        says("WIDOW: NUMBER more than a MISER: 9", letsGo(WIDOW, 9, 999, 99), 58);
        says("WIDOW: NUMBER more than a MISER, by forgives 0", letsGo(WIDOW, 9, 999, 0), 9);
        says("LETS GO .. d: WIDOW, 9 of 8", letsGo(WIDOW, 9, 8, 0), 8);
        says("BISHOP: as a HOST: 100", letsGo(BISHOP, 0, 100, 20), 40);
        says("BISHOP: but all, if d is below 100: 99", letsGo(BISHOP, 0, 99, 20), 99);
        says("BISHOP: but all, if d is below 100: 1, by forgives 0", letsGo(BISHOP, 9, 1, 0), 1);
        says("BISHOP: as a HOST, by forgives 0: none of 100", letsGo(BISHOP, 9, 100, 0), 0);
        says("LETS GO .. d: BISHOP, 198 of 100", letsGo(BISHOP, 0, 100, 99), 100);
        says("CHILD: 0", letsGo(CHILD, 9, 999, 99), 0);
        says("CHILD: 0, of 1", letsGo(CHILD, 9, 1, 99), 0);
    }

    private static int lends(int kind, int number, int v) {
        SeatedByDebts x = Due.people(kind, number, MISER, 0);
        rule(x, "0", "" + v, "0");
        Due.lay(x, 0, 0, 1);
        x.dine(0);
        return x.told(1, 10);
    }

    private static void lends() {
        says("LENDS: GUEST: v, 99", lends(GUEST, 9, 99), 99);
        says("LENDS 0 at least: GUEST", lends(GUEST, 9, 0), 0);
        says("LENDS: MISER: 0", lends(MISER, 9, 99), 0);
        says("LENDS: HOST: NUMBER more than a GUEST: 9", lends(HOST, 9, 99), 108);
        says("LENDS: HOST: NUMBER more than a GUEST: 0", lends(HOST, 0, 99), 99);
        says("LENDS: HOST: NUMBER more, by lends 0", lends(HOST, 9, 0), 9);
        says("LENDS: WIDOW: as a MISER", lends(WIDOW, 9, 99), 0);
        says("LENDS: BISHOP: half of a HOST's: 108", lends(BISHOP, 9, 99), 54);
        says("LENDS: BISHOP: half (cut): 99", lends(BISHOP, 0, 99), 49);
        says("LENDS: BISHOP: half (cut): 1", lends(BISHOP, 1, 0), 0);
        says("LENDS: CHILD: as a GUEST", lends(CHILD, 9, 99), 99);
    }

    /** How glad one is of a CHILD, who is glad by 3. */
    private static int glad(int kind, int number, int v, boolean wanted) {
        SeatedByDebts x = Due.people(kind, number, CHILD, 0);
        rule(x, "0", "0", "" + v);
        if (wanted) x.set(3, 0, 1);
        Due.lay(x, 0, 0, 1);
        return x.table(0, 1) - 3;
    }

    private static void glad() {
        // kind, number, joys, not WANTED, WANTED
        int[][] cases = {
            {GUEST, 9, 99, 99, 109}, {GUEST, 9, -99, -99, -89}, {MISER, 9, 99, 94, 109}, {MISER, 9, -99, -104, -89}, {MISER, 0, 0, -5, 10},
            {HOST, 9, 99, 198, 218}, {HOST, 9, -99, -198, -178}, {WIDOW, 9, 99, 94, 109}, {WIDOW, 0, -99, -104, -89}, {BISHOP, 9, 99, 207, 227},
            {BISHOP, 0, 99, 198, 218}, {BISHOP, 9, -99, -189, -169}, {CHILD, 9, 99, 3, 3}, {CHILD, 0, -99, 3, 3},
        };
        for (int[] c : cases) {
            says("GLAD: kind " + c[0] + ", joys " + c[2] + ", not WANTED", glad(c[0], c[1], c[2], false), c[3]);
            says("GLAD: kind " + c[0] + ", joys " + c[2] + ", 10 more, if WANTED", glad(c[0], c[1], c[2], true), c[4]);
        }
    }

    private static void creditor() {
        SeatedByDebts x = guests(4);
        says("CREDITOR: NONE: one OWES none of them", x.told(3, 5), -1);
        x.owe(3, 2, 1);
        says("CREDITOR: who is OWED most: 1 is more than 0", x.told(3, 5), 2);
        x.owe(3, 1, 1);
        says("CREDITOR: of like ones the first", x.told(3, 5), 1);
        x.owe(3, 0, 1);
        says("CREDITOR: of like ones the first: number 0", x.told(3, 5), 0);
        x.owe(3, 2, 2);
        says("CREDITOR: who is OWED most: the last by 1 more", x.told(3, 5), 2);
        x.owe(0, 3, 999);
        says("CREDITOR by one: what others OWE is no matter", x.told(3, 5), 2);
        longTable(x);
        Due.lay(x, 0, 3, 1, 2);
        x.owe(0, 3, 0);
        says("CREDITOR among those at it: 2, who isn't BESIDE", x.table(0, 0), 0);
        Due.lay(x, 0, 3, 1);
        says("CREDITOR among those at it: 1, as 2 is away", x.table(0, 0), 1);
        Due.lay(x, 0, 3, 1, 0);
        says("CREDITOR among those at it: of like ones the first, 0, who isn't BESIDE", x.table(0, 0), 0);
        Due.lay(x, 0, 3);
        says("CREDITOR among those at it: NONE at a TABLE of one", x.table(0, 0), 1);
    }

    private static void tablesAndBeside() {
        SeatedByDebts x = guests(4);
        x.owe(0, 3, 1);
        Due.lay(x, 0);
        says("A TABLE of nobody is one, too, and LAWFUL", x.table(0, 0), 1);
        says("A TABLE of nobody is one where there is nobody, too", new SeatedByDebts().tables(0), 1);
        Due.lay(x, 0, 0, 1, 0);
        says("A TABLE: some PEOPLE, each once: not twice", x.table(0, 0), -100000);
        Due.lay(x, 0, 0, 1, 4);
        says("A TABLE: some PEOPLE: not number 4 of four", x.table(0, 0), -100000);
        Due.lay(x, 0, 0, 1, -1);
        says("A TABLE: some PEOPLE: not -1", x.table(0, 0), -100000);
        int[][] orders = {{0, 1, 2, 3}, {3, 1, 2, 0}, {1, 0, 3, 2}, {1, 3, 0, 2}, {0, 1, 3, 2}, {1, 3, 2, 0}, {1, 2, 3, 0}, {0, 1, 3}, {3, 1, 0}};
        int[] asLong = {0, 0, 1, 1, 0, 0, 1, 0, 0};
        int[] asRound = {1, 1, 1, 1, 0, 0, 1, 1, 1};
        for (int i = 0; i < orders.length; i++) {
            Due.lay(x, 0, orders[i]);
            x.set(0, 0, 0);
            says("BESIDE: seats that differ by 1: " + i, x.table(0, 0), asLong[i]);
            x.set(0, 0, 1);
            says("BESIDE: at a ROUND one the first and the last, too: " + i, x.table(0, 0), asRound[i]);
        }
    }

    private static void joy() {
        SeatedByDebts x = guests(3);
        rule(x, "0", "0", "1+seat*10");
        int[][] orders = {{}, {2}, {2, 1}, {2, 1, 0}};
        int[] asLong = {0, 0, 12, 1 + 22 + 21};
        int[] asRound = {0, 0, 12, 2 + 22 + 42};
        for (int n = 0; n <= 3; n++) {
            Due.lay(x, 0, orders[n]);
            x.set(0, 0, 0);
            says("JOY of each neighbour: a long one of " + n, x.table(0, 1), asLong[n]);
            x.set(0, 0, 1);
            says("JOY (at a ROUND one of two each has the other one but once): of " + n, x.table(0, 1), asRound[n]);
        }
    }

    private static void dinner() {
        SeatedByDebts x = guests(3);
        rule(x, "0", "(seat=0)*20+(seat=1)*30+(seat=2)*50", "0");
        Due.lay(x, 0, 0, 1);
        says("A DINNER: ROUND, of two: the last and the first no more", x.table(0, 2), 50);
        Due.lay(x, 0, 2);
        says("A DINNER: ROUND, of one", x.table(0, 2), 0);
        Due.lay(x, 0, 0, 1, 2);
        says("A DINNER: at last the last and the first (ROUND, three or more)", x.table(0, 2), 200);
        x.set(0, 0, 0);
        says("A DINNER: a long one has no such", x.table(0, 2), 130);
        SeatedByDebts y = guests(2);
        rule(y, "0", "1", "0");
        Due.lay(y, 0, 0, 1);
        y.owe(0, 1, 998);
        says("A OWES B so much more, 999 at most: 999", y.dine(0), 1000);
        says("A OWES B so much more, 999 at most: 999 still", y.dine(0), 1001);
        says("A OWES B 999", y.told(0, 11), 999);
        // a lender by what is owed by then: 999 that was told ahead of what was let go would lend nothing
        SeatedByDebts z = guests(2);
        rule(z, "5", "(debt<999)*7", "0");
        Due.lay(z, 0, 0, 1);
        z.owe(0, 1, 999);
        says("each told as it is by then", z.table(0, 2), 999 + 7);
        lastAndFirst();
    }

    /** At the last pair the one on the last seat is A: B, on seat 0, lets go first. */
    private static void lastAndFirst() {
        SeatedByDebts x = Due.people(GUEST, 1, CHILD, 0, GUEST, 2);
        // 0 lets go of all 40 while 0 owes 2 something; 2 lets go of 9 of the 60 only if 2 owes 0 nothing by then
        rule(x, "(number=1)*(0<back)*40+(number=2)*(back=0)*9", "0", "0");
        x.owe(2, 0, 40);
        x.owe(0, 2, 60);
        Due.lay(x, 0, 0, 1, 2);
        says("the last and the first: B is 0, on seat 0, and LETS GO first", x.table(0, 2), 51);
        Due.lay(x, 0, 2, 1, 0);
        says("the last and the first: B is 2, on seat 0, whom A OWES nothing less", x.table(0, 2), 60);
        Due.lay(x, 0, 1, 2, 0);
        says("1, 2: the one on the first-named seat is A: B is 0", x.table(0, 2), 51);
        Due.lay(x, 0, 1, 0, 2);
        says("1, 2: the one on the first-named seat is A: B is 2", x.table(0, 2), 60);
    }

    private static void ruined() {
        SeatedByDebts x = guests(7);
        x.owe(6, 0, 999);
        says("RUINED: 1000 or more: not by 999", x.count(2), 0);
        x.owe(6, 5, 1);
        says("RUINED: 1000 or more, all others together (bits)", x.count(2), 64);
        x.owe(0, 6, 999);
        x.owe(1, 6, 999);
        says("RUINED: what one is owed is no matter", x.count(2), 64);
        x.owe(0, 5, 1);
        says("RUINED: number 0 is bit 0", x.count(2), 65);
    }

    /** Four guests at no debt, who may all sit anywhere but for one, who must sit by another. */
    private static SeatedByDebts fourWith(int round, int one, int other) {
        SeatedByDebts x = guests(4);
        x.set(0, 0, round);
        x.owe(one, other, 9);
        return x;
    }

    private static void gladdest() {
        SeatedByDebts x = guests(4);
        says("GLADDEST: of like ones the first", x.tables(1), 1234);
        says("LAWFUL TABLES of all (at a ROUND one number 0 on seat 0)", x.tables(0), 6);
        x.set(2, 3, 3);
        rule(x, "0", "0", "(number=3)*(seat=0)*9");
        says("at a ROUND one number 0 on seat 0, were another gladder there", x.tables(1), 1234);
        longTable(x);
        says("at a long one others may be there", x.tables(1), 4123);
        says("digits: 1 more than each, the first the highest", guests(7).tables(1), 1234567);
        says("of all LAWFUL TABLES: 0 must sit by 2, ROUND", fourWith(1, 0, 2).tables(1), 1243);
        says("of all LAWFUL TABLES: 0 must sit by 3, long", fourWith(0, 0, 3).tables(1), 1423);
        says("of all LAWFUL TABLES: the last must sit by 1, ROUND", fourWith(1, 3, 1).tables(1), 1243);
        SeatedByDebts below = longTable(guests(3));
        rule(below, "0", "0", "-99");
        says("that of most JOY, below 0, too", below.tables(2), -4 * 99);
        says("of like ones the first, below 0, too", below.tables(1), 123);
        SeatedByDebts last = Due.people(GUEST, 9, GUEST, 0, GUEST, 0, GUEST, 0);
        rule(last, "0", "0", "-99");
        says("that of most JOY: a ROUND one, all sad", last.tables(2), -8 * 99);
        rule(longTable(last), "0", "0", "(seat=3)*number");
        says("that of most JOY: 0, glad on the last seat alone", last.tables(1), 2341);
        says("that of most JOY: on the last seat alone", last.tables(2), 9);
        SeatedByDebts seats = guests(3);
        rule(seats, "0", "0", "1+seat*10");
        says("that of most JOY: the last and the first, too, each by the own seat", seats.tables(2), 2 + 22 + 42);
        SeatedByDebts none = crowd(4);
        says("GLADDEST: there is none", none.tables(1), 0);
        says("JOY where there is none", none.tables(2), 0);
        says("GLADDEST of nobody: no digits", new SeatedByDebts().tables(1), 0);
        says("GLADDEST of one", guests(1).tables(1), 1);
        says("GLADDEST of two, ROUND", guests(2).tables(1), 12);
    }

    /** Guests who all must sit by number 0. */
    private static SeatedByDebts crowd(int people) {
        SeatedByDebts x = guests(people);
        for (int i = 1; i < people; i++) x.owe(i, 0, 9);
        return x;
    }

    private static void clearest() {
        says("CLEAREST: of like ones the first", guests(4).tables(3), 1234);
        SeatedByDebts round = fourWith(1, 0, 2);
        rule(round, "0", "0", "0");
        says("CLEAREST: of LAWFUL ones, all alike: 0 must sit by 2, ROUND", round.tables(3), 1243);
        SeatedByDebts row = fourWith(0, 0, 3);
        rule(row, "0", "0", "0");
        says("CLEAREST: of LAWFUL ones, all alike: 0 must sit by 3, long", row.tables(3), 1423);
        SeatedByDebts lent = guests(3);
        rule(lent, "0", "(seat=0)*20+(seat=1)*30+(seat=2)*50", "0");
        says("OWED behind a DINNER: at last by the last and the first, ROUND", lent.tables(4), 200);
        SeatedByDebts x = longTable(Due.people(HOST, 0, HOST, 0, HOST, 0));
        x.owe(1, 2, 100);
        rule(x, "(seat=2)*50", "0", "0");
        says("CLEAREST: OWED would be least: 2 forgives on the last seat", x.tables(3), 123);
        x.owe(1, 2, 0);
        x.owe(1, 0, 100);
        says("CLEAREST: OWED would be least: 0 forgives on the last seat, by 1", x.tables(3), 321);
        says("OWED then", x.tables(4), 0);
        SeatedByDebts more = guests(2);
        more.owe(0, 1, 3);
        rule(more, "0", "99", "0");
        says("CLEAREST: OWED may be more than it was", more.tables(4), 3 + 198);
        says("OWED then: NONE, if there is none", crowd(4).tables(4), -1);
        says("CLEAREST: 0, if there is none", crowd(4).tables(3), 0);
        says("OWED then: 0, by the TABLE of nobody", new SeatedByDebts().tables(4), 0);
    }

    private static void bars() {
        says("BARS: NONE, where there is a LAWFUL one", crowd(3).bars(), -1);
        says("BARS: NONE, where the TABLE of nobody is", new SeatedByDebts().bars(), -1);
        says("BARS: the first who, needn't that one", crowd(4).bars(), 1);
        says("BARS: NONE: one alone makes none possible", crowd(5).bars(), -1);
        SeatedByDebts zero = guests(4);
        for (int i = 0; i < 4; i++) if (i != 1) zero.owe(i, 1, 9);
        says("BARS: the first who: number 0", zero.bars(), 0);
        SeatedByDebts last = guests(6);
        int[][] debts = {{1, 0}, {2, 0}, {5, 0}, {3, 5}, {4, 5}};
        for (int[] d : debts) last.owe(d[0], d[1], 9);
        says("BARS: the last, as nobody else alone would do", last.bars(), 5);
    }

    private static void borrow() {
        SeatedByDebts x = guests(3);
        says("BORROW: the least more: 1, where nothing is owed", x.borrow(1, 0), 1);
        says("BORROW: 1 from the last, too", x.borrow(0, 2), 1);
        x.owe(1, 0, 5);
        says("BORROW: 0 from the CREDITOR", x.borrow(1, 0), 0);
        says("BORROW: 1 more than the first", x.borrow(1, 2), 6);
        x.owe(1, 2, 5);
        says("BORROW: 1, if like, but behind", x.borrow(1, 2), 1);
        says("BORROW: 0, if like, but ahead", x.borrow(1, 0), 0);
        x.owe(1, 0, 0);
        says("BORROW: as much as one behind", x.borrow(1, 0), 5);
        x.owe(1, 0, 998);
        x.owe(1, 2, 1);
        says("BORROW: 999 in all", x.borrow(1, 2), 998);
        x.owe(1, 0, 999);
        says("BORROW: NONE: more than 999 in all", x.borrow(1, 2), -1);
        x.owe(1, 2, 999);
        says("BORROW: NONE: 999 are not enough behind 999", x.borrow(1, 2), -1);
        x.owe(1, 0, 0);
        says("BORROW: 999 in all, ahead of 999", x.borrow(1, 0), 999);
        SeatedByDebts two = guests(2);
        says("BORROW: 1, where there are but two", two.borrow(0, 1), 1);
        says("BORROW: 1, where there are but two, from number 0", two.borrow(1, 0), 1);
    }

    private static void company() {
        says("COMPANY: nobody", new SeatedByDebts().company(0), 0);
        says("COMPANY: one", guests(1).company(0), 1);
        says("COMPANY: all seven (bits)", guests(7).company(0), 127);
        says("COMPANY: of like ones the least as bits", crowd(4).company(0), 0b0111);
        SeatedByDebts x = guests(4);
        for (int i = 0; i < 4; i++) if (i != 1) x.owe(i, 1, 9);
        says("COMPANY: number 0 must, too", x.company(0), 0b0111);
        says("COMPANY: the most PEOPLE: without 0", crowd(5).company(0), 0b11110);
        // where 0 is away 2, 3 and 4 must all sit by 1, who has but two seats beside
        SeatedByDebts y = longTable(crowd(5));
        for (int i = 2; i < 5; i++) y.owe(i, 1, 3);
        says("COMPANY: CREDITORS among themselves: 0, 1, 2", y.company(0), 0b00111);
        says("COMPANY: how many", y.company(1), 3);
    }

    private static void dinnersInThought() {
        SeatedByDebts x = guests(2);
        says("n DINNERS (0 .. 20): 0", x.run(0, 0), 0);
        says("n DINNERS (0 .. 20): 20", x.run(20, 0), 20);
        Due.refused("n DINNERS (0 .. 20): not 21", x, () -> x.run(21, 0), -2);
        Due.refused("n DINNERS (0 .. 20): not -1", x, () -> x.run(-1, 0), -2);
        String before = Seen.of(x);
        x.run(20, 1);
        says("in thought", Seen.of(x).equals(before) ? 1 : 0, 1);
        says("as long as there is one: none at all", crowd(4).run(20, 0), 0);
        says("OWED at last, by none held", crowd(4).run(20, 1), 27);
        says("RUINED at last, by none held", crowd(4).run(20, 2), 0);
        says("as long as there is one: that of nobody", new SeatedByDebts().run(20, 0), 20);
        SeatedByDebts y = longTable(Due.people(GUEST, 1, GUEST, 2, GUEST, 3));
        rule(y, "0", "(seat=1)*number", "(seat=0)*number");
        says("each by the GLADDEST TABLE: 2, 0, 1: 0 lends both one", y.run(1, 1), 2);
        x.owe(0, 1, 998);
        rule(x, "0", "1", "0");
        says("999 at most in thought, too", x.run(20, 1), 999 + 20);
        // 1 and 2 must sit by 0, 3 by 1, who forgives so much that 3 must sit by 0, too, who has but two seats beside
        SeatedByDebts later = guests(4);
        int[][] debts = {{1, 0, 900}, {2, 0, 900}, {3, 0, 8}, {3, 1, 10}};
        for (int[] d : debts) later.owe(d[0], d[1], d[2]);
        says("the GLADDEST TABLE by then, as long as there is one: 1 is held", later.run(20, 0), 1);
        says("OWED at last, by the one that is held", later.run(20, 1), 1818 - 3 * 5 + 8 * 2);
        SeatedByDebts z = guests(3);
        z.owe(0, 1, 990);
        z.owe(0, 2, 1);
        rule(z, "0", "1", "0");
        says("RUINED at last: 999 by 4 dinners", z.run(4, 2), 0);
        says("RUINED at last: 1001 by 5 dinners", z.run(5, 2), 1);
    }

    private static void toldTables() {
        SeatedByDebts x = longTable(guests(7));
        Due.lay(x, 0, 0, 1, 2, 3, 4, 5, 6);
        says("the first seat: NONE", x.tells(0, 0, 0), -1);
        says("KINDS (bits 0 .. 5): all", x.tells(0, 0, 1), 63);
        says("NUMBERS (bits 0 .. 9): all", x.tells(0, 6, 2), 1023);
        says("OWE another one (0 .. 999: how many): all", x.tells(0, 0, 11), 1000);
        says("OWE another one (0 .. 999: the greatest): 999", x.tells(0, 0, 21), 999);
        says("OWE another one: number 6, across: 0 alone", x.tells(0, 0, 16), 1);
        says("OWE another one: number 6, across: the greatest is 0", x.tells(0, 0, 26), 0);
        says("OWE another one: number 0, BESIDE", x.tells(0, 1, 10), 1000);
        x.owe(0, 1, 400);
        says("OWE another one: 400 at most while 1 is ahead", x.tells(0, 0, 16), 401);
        says("the greatest of these: as much as 1 is owed", x.tells(0, 0, 26), 400);
        x.owe(6, 3, 1);
        says("the first seat: the last", x.tells(0, 0, 0), 6);
        x.owe(0, 6, 401);
        says("the first seat: of two the first", x.tells(0, 0, 0), 0);
        says("KINDS: none, as another one is wronged", x.tells(0, 0, 1), 0);
        says("NUMBERS: none", x.tells(0, 0, 2), 0);
        says("OWE another one: none", x.tells(0, 0, 11), 0);
        says("OWE another one: the greatest: NONE", x.tells(0, 0, 21), -1);
        x.owe(0, 6, 0);
        says("KINDS by which it would be LAWFUL: owing 1: MISER must, HOST, BISHOP needn't", x.tells(0, 6, 1), 1 << HOST | 1 << BISHOP);
        SeatedByDebts y = longTable(Due.people(MISER, 0, GUEST, 0, GUEST, 0));
        Due.lay(y, 0, 0, 1, 2);
        y.owe(0, 2, 90);
        says("NUMBERS by which it would be LAWFUL: MISER, 90: 9 alone", y.tells(0, 0, 2), 1 << 9);
        y.owe(0, 2, 91);
        says("NUMBERS by which it would be LAWFUL: MISER, 91: none", y.tells(0, 0, 2), 0);
    }

    /** What each owes each other one by a seed, by numbers too large to wrap or to be below 0. */
    private static void oweAsDrawn(SeatedByDebts x, int seed) {
        long z = seed & 0xFFFFFFFFL;
        for (int one = 0; one < x.count(0); one++) {
            for (int other = 0; other < x.count(0); other++) {
                if (one == other) continue;
                z = (z * 1103515245L + 12345L) % 4294967296L;
                x.owe(one, other, (int) (z / 512 % 100));
            }
        }
    }

    private static void drawn() {
        int[] seeds = {0, 1, -1, 512, 65535, Integer.MAX_VALUE, Integer.MIN_VALUE, 1103515245, -12345, 987654321};
        for (int seed : seeds) {
            for (int n = 0; n <= 7; n++) {
                for (int round = 0; round < 2; round++) {
                    SeatedByDebts x = new SeatedByDebts();
                    for (int i = 0; i < n; i++) x.guest(i % 2 == 0 ? MISER : CHILD, 3 + i % 5);
                    x.set(0, 0, round);
                    if (n > 1) x.owe(0, 1, 999);
                    String before = Seen.of(x);
                    int tables = x.drawn(seed);
                    says("DRAWN: would be", Seen.of(x).equals(before) ? 1 : 0, 1);
                    oweAsDrawn(x, seed);
                    says("DRAWN by a SEED, z being an int: " + seed + ", " + n + " PEOPLE", tables, x.tables(0));
                }
            }
        }
        says("DRAWN: the TABLE of nobody", new SeatedByDebts().drawn(Integer.MIN_VALUE), 1);
        says("DRAWN: that of one", guests(1).drawn(0), 1);
    }

    private static void inSeeds() {
        SeatedByDebts x = guests(6);
        int[] seeds = {0, Integer.MAX_VALUE, Integer.MAX_VALUE - 9, Integer.MIN_VALUE, -3};
        for (int seed : seeds) {
            int[] many = {1, 2, 20};
            for (int n : many) {
                int having = 0;
                for (int i = 0; i < n; i++) having += x.drawn(seed + i) > 0 ? 1 : 0;
                SeatedByDebts anew = guests(6);
                long above = anew.chance(seed, n, 0);
                says("IN n seeds (1 .. 20), each 1 more (an int): " + seed + ", " + n, above * n, having * anew.chance(seed, n, 1));
            }
        }
        says("IN n seeds (1 .. 20): not 0", x.chance(0, 0, 0), SeatedByDebts.NO);
        says("IN n seeds (1 .. 20): not 21", x.chance(0, 21, 1), SeatedByDebts.NO);
        SeatedByDebts first = Due.people(HOST, 0, HOST, 0, HOST, 0, HOST, 0, HOST, 0);
        says("IN 20 seeds: all, of an object's first call", first.chance(0, 20, 0), 1);
        says("IN 20 seeds: what all are of", first.chance(0, 20, 1), 1);
        says("IN 20 seeds: of nobody all have that of nobody", new SeatedByDebts().chance(0, 20, 0), 1);
        int none = 0;
        while (x.drawn(none) > 0 || x.drawn(none + 1) > 0) none++;
        says("IN 2 seeds, none: above", x.chance(none, 2, 0), 0);
        says("IN 2 seeds, none: below, in lowest terms", x.chance(none, 2, 1), 1);
    }

    private static void image() {
        SeatedByDebts x = guests(2);
        Due.refused("no IMAGE yet", x, x::back, -3);
        x.image();
        x.set(0, 0, 0);
        x.set(1, 0, 999);
        x.set(2, 0, 9);
        x.set(3, 0, 1);
        x.owe(0, 1, 999);
        rule(x, "1", "1", "1");
        x.guest(CHILD, 5);
        x.back();
        says("AN IMAGE keeps ROUND", x.told(0, 0), 1);
        says("AN IMAGE keeps DINNERS", x.told(0, 1), 0);
        says("AN IMAGE keeps NUMBERS", x.told(0, 2), 0);
        says("AN IMAGE keeps whom all WANT", x.told(0, 3), -1);
        says("AN IMAGE keeps what all OWE", x.told(0, 7), 0);
        says("AN IMAGE keeps THE RULE", x.count(6), 0);
        says("PEOPLE that came since go", x.count(0), 2);
        says("PEOPLE that came since are none such", x.told(2, 4), -2);
        says("TEXTS are not told of", x.count(4), 2);
        for (int i = 2; i < 7; i++) says("there is room for others then", x.guest(GUEST, 0), i);
        says("who came since owes nothing", x.count(1), 0);
        x.owe(6, 5, 3);
        says("back once more: the IMAGE stays", x.back(), 2);
        says("back to it", x.count(1), 0);
    }

    private static void sheets() {
        SeatedByDebts x = new SeatedByDebts();
        for (int s = 0; s < 4; s++) {
            int sheet = s;
            Due.refused("SHEETS 0 .. 3 are missing (as all are at first): " + s, x, () -> x.cell(sheet, 0, 0), -11);
            says("SHEETS 0 .. 3: " + s, x.sheet(s, 0, 0), 1);
            Due.refused("rows of numbers: of none", x, () -> x.cell(sheet, 0, 0), -12);
        }
        Due.refused("SHEETS 0 .. 3: not 4", x, () -> x.sheet(4, 0, 0), -2);
        Due.refused("SHEETS 0 .. 3: not -1", x, () -> x.sheet(-1, 0, 0), -2);
        Due.refused("of sort 0, 1, 2: not 3", x, () -> x.sheet(0, 3, 0), -2);
        for (int sort = 0; sort < 3; sort++) {
            x.sheet(0, 0, 3);
            x.sheet(1, sort, 3);
            says("of sort 0 bytes, 1 shorts, 2 ints: " + sort, x.copy(0, 0, 1, 0, 3), sort == 0 ? 3 : -13);
        }
    }
}
