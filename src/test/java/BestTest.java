/** Promises 12 to 15: bars, borrow, company, run. */
public final class BestTest {
    public static void main(String[] args) {
        bars();
        borrow();
        company();
        run();
        ruined();
        Due.end("BestTest");
    }

    /** Guests 1, 2, 3 .. who all owe number 0 nine. */
    private static SeatedByDebts crowd(int people) {
        SeatedByDebts x = new SeatedByDebts();
        for (int i = 0; i < people; i++) x.guest(0, i);
        for (int i = 1; i < people; i++) x.owe(i, 0, 9);
        return x;
    }

    private static void bars() {
        Due.is("nobody", new SeatedByDebts().bars(), -1);
        Due.is("three are no crowd", crowd(3).bars(), -1);
        Due.is("the first of three too many", crowd(4).bars(), 1);
        Due.is("no one alone bars all of four", crowd(5).bars(), -1);
        SeatedByDebts x = crowd(4);
        x.owe(0, 1, 1);
        Due.is("0 must sit by 1, and may", x.bars(), 2);
        x.set(0, 0, 0);
        Due.is("long: 1, 2 or 3 may go", x.bars(), 2);
        SeatedByDebts y = Due.people(0, 0, 0, 0, 0, 0, 5, 0);
        for (int i = 1; i < 4; i++) y.owe(i, 0, 9);
        Due.is("a child owing what is odd is of these", y.bars(), 1);
        y.owe(3, 0, 8);
        Due.is("a child owing what is even isn't", y.bars(), -1);
    }

    private static void borrow() {
        SeatedByDebts x = Due.people(0, 0, 0, 0, 0, 0, 0, 0);
        Due.is("from nobody else", x.borrow(0, 2), 1);
        x.owe(0, 2, 50);
        Due.is("is the creditor", x.borrow(0, 2), 0);
        Due.is("ahead of it: as much", x.borrow(0, 1), 50);
        Due.is("behind it: 1 more", x.borrow(0, 3), 51);
        x.owe(0, 3, 50);
        Due.is("like, but behind", x.borrow(0, 3), 1);
        Due.is("like, but ahead", x.borrow(0, 2), 0);
        x.owe(0, 1, 20);
        Due.is("less by what one owes", x.borrow(0, 1), 30);
        x.owe(0, 2, 999);
        Due.is("999 in all", x.borrow(0, 1), 979);
        Due.is("1000 in all", x.borrow(0, 3), -1);
        x.owe(1, 0, 60);
        Due.is("more than number 0 is owed", x.borrow(1, 3), 61);
        Due.is("number 0 from oneself", x.borrow(0, 0), -2);
        Due.is("from nobody", x.borrow(0, 4), -2);
        Due.is("from -1", x.borrow(0, -1), -2);
        Due.is("by nobody", x.borrow(4, 0), -2);
        Due.is("by -1", x.borrow(-1, 0), -2);
        Due.is("nothing is borrowed", x.told(0, 13), 50);
    }

    private static void company() {
        SeatedByDebts x = crowd(5);
        Due.is("0 and two more, or all but 0", x.company(0), 0b11110);
        Due.is("how many", x.company(1), 4);
        SeatedByDebts y = crowd(4);
        Due.is("the least bits", y.company(0), 0b0111);
        Due.is("three", y.company(1), 3);
        // where the creditor among all is away, another one takes the place
        SeatedByDebts z = crowd(4);
        z.set(0, 0, 0);
        z.owe(1, 2, 8);
        z.owe(1, 3, 7);
        z.owe(2, 3, 8);
        Due.is("long", z.company(0), 0b0111);
        z.owe(1, 2, 20);
        z.owe(2, 0, 0);
        z.owe(2, 3, 1);
        z.owe(0, 3, 5);
        Due.is("all in a row", z.company(0), 0b1111);
        Due.is("four", z.company(1), 4);
        Due.is("what 2", z.company(2), -2);
        Due.is("what -1", z.company(-1), -2);
        Due.is("nobody", new SeatedByDebts().company(0), 0);
        Due.is("none", new SeatedByDebts().company(1), 0);
        Due.is("one alone", Due.people(0, 0).company(0), 1);
        SeatedByDebts c = Due.people(2, 0, 2, 0, 2, 0, 2, 0, 2, 0, 2, 0, 2, 0);
        Due.is("all seven", c.company(0), 127);
    }

    private static void run() {
        SeatedByDebts x = Due.people(0, 0, 0, 0);
        x.owe(0, 1, 20);
        // each dinner: 5 forgiven and 2 lent; the other one owes 0, 2, then 5 at most is forgiven: 2 again
        Due.is("none", x.run(0, 1), 20);
        Due.is("one", x.run(1, 1), 17 + 2);
        Due.is("two", x.run(2, 1), 14 + 2);
        Due.is("twenty", x.run(20, 1), 2 + 2);
        Due.is("held", x.run(20, 0), 20);
        Due.is("in thought", x.count(1), 20);
        Due.is("no dinner more", x.count(3), 0);
        x.set(1, 0, 999);
        Due.is("dinners do not matter", x.run(3, 0), 3);
        Due.is("n 21", x.run(21, 0), -2);
        Due.is("n -1", x.run(-1, 0), -2);
        Due.is("what 3", x.run(0, 3), -2);
        Due.is("what -1", x.run(0, -1), -2);
        SeatedByDebts none = crowd(4);
        Due.is("no table, none held", none.run(5, 0), 0);
        Due.is("owed as it is", none.run(5, 1), 27);
        // 1 and 2 must sit by 0, 3 by 1; 1 forgives 3 so much, that by then 3 must sit by 0, too
        SeatedByDebts later = Due.people(0, 0, 0, 0, 0, 0, 0, 0);
        later.owe(1, 0, 900);
        later.owe(2, 0, 900);
        later.owe(3, 0, 8);
        later.owe(3, 1, 10);
        Due.is("one is held", later.run(20, 0), 1);
        Due.is("owed then", later.run(20, 1), 1818 - 3 * 5 + 8 * 2);
        Due.is("it is held truly", later.film(0), 4);
        Due.is("owed behind it", later.dine(0), 1819);
        Due.is("no table then", later.tables(0), 0);
    }

    private static void ruined() {
        SeatedByDebts x = Due.people(0, 0, 1, 0, 5, 0);
        x.owe(0, 1, 999);
        Due.is("999 are no ruin", x.count(2), 0);
        x.owe(0, 2, 1);
        Due.is("1000 are", x.count(2), 1);
        x.owe(2, 0, 500);
        x.owe(2, 1, 500);
        Due.is("two are ruined", x.count(2), 0b101);
        Due.is("at last", x.run(0, 2), 0b101);
        // 0 is forgiven 2 by the miser, nothing by the child, who lends 2; 2 is forgiven 5 and 2, and lent 2
        Due.is("behind a dinner", x.run(1, 2), 1);
    }
}
