/** Promises 9 to 11: table, dine, tables. */
public final class TablesTest {
    private static final int NO_TABLE = -100000;

    public static void main(String[] args) {
        noTables();
        lawful();
        besideAtBothEnds();
        creditorAmongThoseThere();
        joyOfKinds();
        letsGoOfKinds();
        lendsOfKinds();
        orderOfADinner();
        lastAndFirst();
        dine();
        tables();
        likeOnes();
        none();
        Due.end("TablesTest");
    }

    private static void noTables() {
        SeatedByDebts x = Due.people(0, 0, 0, 0, 0, 0);
        Due.is("missing", x.table(0, 0), NO_TABLE);
        Due.lay(x, 0, 0, 1, 2);
        Due.is("sheet 4", x.table(4, 0), NO_TABLE);
        Due.is("sheet -1", x.table(-1, 0), NO_TABLE);
        Due.is("what 3", x.table(0, 3), NO_TABLE);
        Due.is("what -1", x.table(0, -1), NO_TABLE);
        for (int what = 0; what < 3; what++) {
            Due.lay(x, 1, 0, 1, 3);
            Due.is("nobody there", x.table(1, what), NO_TABLE);
            Due.lay(x, 1, 0, -1);
            Due.is("-1 there", x.table(1, what), NO_TABLE);
            Due.lay(x, 1, 0, 1, 0);
            Due.is("twice there", x.table(1, what), NO_TABLE);
            Due.lay(x, 1, 0, 1, 2, 0);
            Due.is("more than all", x.table(1, what), NO_TABLE);
        }
        Due.lay(x, 1);
        Due.is("nobody's table is lawful", x.table(1, 0), 1);
        Due.is("nobody's joy", x.table(1, 1), 0);
        x.owe(0, 1, 9);
        Due.is("owed behind nobody's dinner", x.table(1, 2), 9);
        x.sheet(1, 0, 1);
        x.cell(1, 0, 258);
        Due.is("a byte's lowest bits", x.table(1, 0), 1);
        x.cell(1, 0, 130);
        Due.is("a byte below 0", x.table(1, 0), NO_TABLE);
        x.sheet(1, 1, 1);
        x.cell(1, 0, 65536 + 2);
        Due.is("a short's lowest bits", x.table(1, 0), 1);
        x.cell(1, 0, 258);
        Due.is("a short of 258", x.table(1, 0), NO_TABLE);
    }

    private static void lawful() {
        SeatedByDebts x = Due.people(0, 0, 0, 0, 0, 0, 0, 0);
        x.owe(0, 3, 5);
        Due.lay(x, 0, 1, 0, 3, 2);
        Due.is("creditor behind", x.table(0, 0), 1);
        Due.lay(x, 0, 1, 3, 0, 2);
        Due.is("creditor ahead", x.table(0, 0), 1);
        Due.lay(x, 0, 0, 1, 3, 2);
        Due.is("creditor across", x.table(0, 0), 0);
        Due.lay(x, 0, 1, 2);
        Due.is("who is not there, must nothing", x.table(0, 0), 1);
    }

    private static void besideAtBothEnds() {
        for (int round = 0; round < 2; round++) {
            SeatedByDebts x = Due.people(0, 0, 0, 0, 0, 0, 0, 0);
            x.set(0, 0, round);
            x.owe(0, 3, 5);
            Due.lay(x, 0, 0, 1, 2, 3);
            Due.is("debtor first, creditor last, round " + round, x.table(0, 0), round);
            Due.lay(x, 0, 3, 1, 2, 0);
            Due.is("creditor first, debtor last, round " + round, x.table(0, 0), round);
            Due.lay(x, 0, 0, 3);
            Due.is("two, round " + round, x.table(0, 0), 1);
        }
    }

    private static void creditorAmongThoseThere() {
        SeatedByDebts x = Due.people(1, 1, 0, 0, 0, 0, 0, 0);
        x.set(0, 0, 0);
        x.owe(0, 1, 50);
        x.owe(0, 2, 11);
        x.owe(0, 3, 10);
        Due.lay(x, 0, 0, 3, 2);
        Due.is("1 is away: 2 is the creditor", x.table(0, 0), 0);
        Due.lay(x, 0, 3, 0, 2);
        Due.is("2 is beside", x.table(0, 0), 1);
        x.owe(0, 2, 9);
        Due.lay(x, 0, 0, 2, 3);
        Due.is("10 are not above 10 times 1", x.table(0, 0), 1);
    }

    private static void joyOfKinds() {
        // by joys 7, with a child beside (3): one of each kind, number 4, the child wanted or not
        int[][] due = {{7, 17}, {2, 17}, {14, 34}, {2, 17}, {18, 38}, {3, 3}};
        for (int kind = 0; kind < 6; kind++) {
            SeatedByDebts x = Due.people(kind, 4, 5, 0);
            x.force(Due.read(x, "forgives 0;lends 0;joys 7;"));
            Due.lay(x, 0, 0, 1);
            Due.is("gladness of kind " + kind, x.table(0, 1) - 3, due[kind][0]);
            x.set(3, 0, 1);
            Due.is("gladness of kind " + kind + " by one wanted", x.table(0, 1) - 3, due[kind][1]);
            Due.lay(x, 0, 0);
            Due.is("no neighbour, no joy", x.table(0, 1), 0);
        }
    }

    private static void letsGoOfKinds() {
        // number 4, forgives 9: of 200, of 99, of 3 that a child owes
        int[][] due = {{9, 9, 3}, {4, 4, 3}, {18, 18, 3}, {8, 8, 3}, {18, 99, 3}, {0, 0, 0}};
        int[] owed = {200, 99, 3};
        for (int kind = 0; kind < 6; kind++) {
            for (int i = 0; i < 3; i++) {
                SeatedByDebts x = Due.people(kind, 4, 5, 0);
                x.force(Due.read(x, "forgives 9;lends 0;joys 0;"));
                x.owe(1, 0, owed[i]);
                Due.lay(x, 0, 0, 1);
                x.dine(0);
                int lent = kind == 2 ? 4 : kind == 4 ? 2 : 0;
                Due.is("kind " + kind + " lets go of " + owed[i], owed[i] + lent - x.told(1, 10), due[kind][i]);
            }
        }
        SeatedByDebts x = Due.people(4, 0, 5, 0);
        x.force(Due.read(x, "forgives 9;lends 0;joys 0;"));
        x.owe(1, 0, 100);
        Due.lay(x, 0, 0, 1);
        Due.is("a bishop lets go of 100 as a host", x.table(0, 2), 82);
    }

    private static void lendsOfKinds() {
        // number 4, lends 7
        int[] due = {7, 0, 11, 0, 5, 7};
        for (int kind = 0; kind < 6; kind++) {
            SeatedByDebts x = Due.people(kind, 4, 1, 0);
            x.force(Due.read(x, "forgives 0;lends 7;joys 0;"));
            Due.lay(x, 0, 0, 1);
            Due.is("kind " + kind + " lends", x.dine(0), due[kind]);
            Due.is("to the neighbour", x.told(1, 10), due[kind]);
        }
    }

    private static void orderOfADinner() {
        // B forgives all of what A owes only while A owes 10, A forgives B 3 if A owes B nothing by then;
        // then B lends A 1, and A lends B what A owes by then
        SeatedByDebts x = Due.people(0, 0, 0, 1);
        x.force(Due.read(x, "forgives (number=1)*debt+(number=0)*(back=0)*3;lends (number=1)+(number=0)*back*20;joys 0;"));
        x.owe(0, 1, 10);
        x.owe(1, 0, 50);
        Due.lay(x, 0, 0, 1);
        Due.is("A is 0: owed", x.table(0, 2), 1 + 47 + 20);
        Due.lay(x, 0, 1, 0);
        // A is 1 now: 0 forgives first (back is 10: none), 1 forgives 10; 0 lends 1 nothing (back is 0), 1 lends 0 one
        Due.is("A is 1: owed", x.table(0, 2), 1 + 50);
        Due.is("nothing has come of it", x.count(1), 60);
        Due.is("dined", x.dine(0), 51);
        Due.is("0 owes", x.told(0, 11), 1);
        Due.is("1 owes", x.told(1, 10), 50);
    }

    private static void lastAndFirst() {
        // lends 1 + the lender's seat: a round table of three has a third pair, one of two hasn't a second
        SeatedByDebts x = Due.people(0, 0, 0, 0, 0, 0);
        x.force(Due.read(x, "forgives 0;lends seat+1;joys 1;"));
        Due.lay(x, 0, 0, 1, 2);
        Due.is("round, three", x.table(0, 2), 12);
        Due.is("joy of it", x.table(0, 1), 6);
        Due.lay(x, 1, 0, 1);
        Due.is("round, two", x.table(1, 2), 3);
        Due.is("joy of it", x.table(1, 1), 2);
        x.set(0, 0, 0);
        Due.is("long, three", x.table(0, 2), 8);
        Due.is("joy of it", x.table(0, 1), 4);
        x.set(0, 0, 1);
        x.dine(0);
        Due.is("0 owes 2, on seat 2", x.told(0, 12), 3);
        Due.is("2 owes 0, on seat 0", x.told(2, 10), 1);
    }

    private static void dine() {
        SeatedByDebts x = Due.people(0, 0, 0, 0, 0, 0);
        Due.is("sheet 4", x.dine(4), -2);
        Due.is("sheet -1", x.dine(-1), -2);
        Due.is("missing", x.dine(3), -11);
        Due.lay(x, 0, 0, 0);
        Due.is("no table", x.dine(0), -2);
        x.set(1, 0, 999);
        Due.is("no table, and dinners are 999", x.dine(0), -2);
        Due.is("missing, and dinners are 999", x.dine(3), -11);
        Due.lay(x, 0, 0, 1);
        Due.is("dinners are 999", x.dine(0), -3);
        Due.is("nothing has changed", x.count(1), 0);
        x.set(1, 0, 998);
        Due.is("the last dinner", x.dine(0), 4);
        Due.is("dinners", x.count(3), 999);
        x.set(1, 0, 0);
        x.owe(0, 2, 900);
        x.set(0, 0, 0);
        Due.lay(x, 0, 0, 1, 2);
        Due.is("not lawful", x.table(0, 0), 0);
        Due.is("but dined by", x.dine(0), 908);
    }

    private static void tables() {
        SeatedByDebts x = Due.people(0, 0, 0, 0, 0, 0, 0, 0);
        Due.is("round ones of four", x.tables(0), 6);
        x.set(0, 0, 0);
        Due.is("long ones of four", x.tables(0), 24);
        Due.is("the first", x.tables(1), 1234);
        x.owe(1, 3, 1);
        Due.is("with two side by side", x.tables(0), 12);
        Due.is("the first of these", x.tables(1), 1243);
        x.set(3, 3, 0);
        Due.is("the gladdest", x.tables(1), 1423);
        Due.is("its joy", x.tables(2), 16);
        x.owe(0, 2, 7);
        Due.is("the one that clears most", x.tables(3), 1324);
        Due.is("owed then", x.tables(4), 8 - 5 - 1 + 12);
        Due.is("nothing has come of it", x.count(1), 8);
        Due.is("what 5", x.tables(5), -2);
        Due.is("what -1", x.tables(-1), -2);
        SeatedByDebts r = Due.people(0, 0, 0, 0, 0, 0, 0, 0);
        r.owe(0, 3, 5);
        Due.is("round: 3 beside 0, on seat 1 or 3", r.tables(0), 4);
        r.owe(3, 0, 9);
        r.owe(1, 0, 2);
        Due.is("round: 1 and 3 beside 0", r.tables(0), 2);
        // 2 on the last seat is glad of 0, and 0 of 2, but not on seat 1; what clears most has these the same way
        r.owe(1, 0, 0);
        r.owe(0, 2, 90);
        r.owe(0, 3, 0);
        r.owe(2, 0, 90);
        r.owe(3, 0, 0);
        r.force(Due.read(r, "forgives (seat=3)*60+(seat=0)*9;lends 0;joys (seat=3)*5*(back<90)+(seat=3)*9*(back=90);"));
        Due.is("the gladdest, by the last seat", r.tables(1), 1243);
        Due.is("its joy", r.tables(2), 14);
        Due.is("the clearest, by the last seat", r.tables(3), 1243);
        Due.is("owed then", r.tables(4), 180 - 69);
        SeatedByDebts y = Due.people(2, 0, 2, 0, 2, 0, 2, 0, 2, 0, 2, 0, 2, 0);
        Due.is("round ones of seven", y.tables(0), 720);
        Due.is("the first of them", y.tables(3), 1234567);
        y.set(0, 0, 0);
        Due.is("long ones of seven", y.tables(0), 5040);
    }

    private static void likeOnes() {
        // by joys -99 on seat 0 alone all are alike; a later one that is but as good does not win
        SeatedByDebts x = Due.people(0, 1, 0, 2, 0, 3);
        x.set(0, 0, 0);
        x.force(Due.read(x, "forgives 0;lends 0;joys 0-(seat=0)*99;"));
        Due.is("the first", x.tables(1), 123);
        Due.is("joy below 0", x.tables(2), -99);
        x.force(Due.read(x, "forgives 0;lends seat*(number=3)*9;joys (seat=0)*number;"));
        Due.is("3 on seat 0 is glad", x.tables(1), 312);
        Due.is("and lends nothing", x.tables(3), 312);
        Due.is("owed then", x.tables(4), 0);
    }

    private static void none() {
        SeatedByDebts x = Due.people(0, 0, 0, 0, 0, 0, 0, 0);
        for (int i = 1; i < 4; i++) x.owe(i, 0, 9);
        Due.is("three can't sit by one", x.tables(0), 0);
        Due.is("no gladdest", x.tables(1), 0);
        Due.is("no joy", x.tables(2), 0);
        Due.is("no clearest", x.tables(3), 0);
        Due.is("none owed then", x.tables(4), -1);
    }
}
