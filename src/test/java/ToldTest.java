/** Promises 16 to 22: tells, film, drawn, chance, image, back, count. */
public final class ToldTest {
    public static void main(String[] args) {
        tellsWrong();
        tells();
        tellsOfOthers();
        film();
        filmOfNone();
        drawn();
        chance();
        imageAndBack();
        count();
        Due.end("ToldTest");
    }

    private static void tellsWrong() {
        SeatedByDebts x = Due.people(0, 0, 0, 0, 0, 0);
        Due.lay(x, 0, 0, 1, 2);
        Due.lay(x, 1, 0, 1);
        Due.lay(x, 2, 0, 1, 1);
        Due.is("sheet 4", x.tells(4, 0, 0), -2);
        Due.is("sheet -1", x.tells(-1, 0, 0), -2);
        Due.is("one 3", x.tells(0, 3, 0), -2);
        Due.is("one -1", x.tells(0, -1, 0), -2);
        for (int what : new int[] {-1, 3, 9, 10, 13, 19, 20, 23, 29, 30, 31, 101}) Due.is("what " + what, x.tells(0, 0, what), -2);
        Due.is("what is looked at ahead of what is missing", x.tells(3, 0, 3), -2);
        Due.is("missing", x.tells(3, 0, 0), -11);
        Due.is("not all", x.tells(1, 0, 0), -2);
        Due.is("no table", x.tells(2, 0, 0), -2);
        Due.is("nobody", new SeatedByDebts().tells(0, 0, 0), -2);
    }

    private static void tells() {
        SeatedByDebts x = Due.people(0, 0, 1, 3, 0, 0, 0, 0);
        x.set(0, 0, 0);
        x.owe(1, 3, 31);
        x.owe(1, 2, 30);
        Due.lay(x, 0, 0, 1, 2, 3);
        Due.is("the first wronged seat", x.tells(0, 3, 0), 1);
        // owing 31: a host, a widow of an odd number, a bishop needn't; a child must
        Due.is("kinds", x.tells(0, 1, 1), 1 << 2 | 1 << 3 | 1 << 4);
        // a miser needn't from number 4 on
        Due.is("numbers", x.tells(0, 1, 2), 0b1111110000);
        // owing 3 less than 31 is fine: 30 and below, by which 2 is the creditor or one needn't
        Due.is("debts to 3", x.tells(0, 1, 13), 31);
        Due.is("the greatest of these", x.tells(0, 1, 23), 30);
        // owing 2 as much as 3 is fine: 2 is the first
        Due.is("debts to 2", x.tells(0, 1, 12), 1000 - 31);
        Due.is("the greatest of these", x.tells(0, 1, 22), 999);
        Due.is("debts to 0", x.tells(0, 1, 10), 1000 - 31);
        Due.is("the greatest of these", x.tells(0, 1, 20), 999);
        x.owe(1, 3, 400);
        Due.is("debts to 0, of 400 and above", x.tells(0, 1, 10), 600);
        x.owe(1, 3, 31);
        Due.is("nothing has come of it", x.told(1, 12), 30);
        Due.is("nor of kinds", x.told(1, 4), 1);
        Due.is("nor of numbers", x.told(1, 2), 3);
        Due.lay(x, 0, 2, 3, 1, 0);
        Due.is("none is wronged", x.tells(0, 1, 0), -1);
        Due.is("any kind", x.tells(0, 1, 1), 63);
        Due.is("any number", x.tells(0, 1, 2), 1023);
        Due.is("any debt to 3", x.tells(0, 1, 13), 1000);
        Due.is("debts to 2", x.tells(0, 1, 12), 31);
        Due.is("the greatest of these", x.tells(0, 1, 22), 30);
    }

    private static void tellsOfOthers() {
        SeatedByDebts x = Due.people(0, 0, 0, 0, 0, 0, 0, 0);
        x.set(0, 0, 0);
        x.owe(0, 3, 1);
        x.owe(1, 3, 1);
        Due.lay(x, 0, 2, 0, 1, 3);
        Due.is("0 on seat 1 is wronged", x.tells(0, 1, 0), 1);
        Due.is("whatever 1 is", x.tells(0, 1, 1), 0);
        Due.is("whatever 1's number", x.tells(0, 1, 2), 0);
        Due.is("whatever 1 owes", x.tells(0, 1, 12), 0);
        Due.is("no greatest", x.tells(0, 1, 22), -1);
        Due.is("but 0 may owe 3 nothing", x.tells(0, 0, 13), 1);
        Due.is("that's the greatest", x.tells(0, 0, 23), 0);
        Due.is("or 1 more than 0", x.tells(0, 0, 11), 999);
        x.set(0, 0, 1);
        Due.lay(x, 0, 0, 2, 1, 3);
        Due.is("round: first and last", x.tells(0, 0, 0), -1);
    }

    private static void film() {
        SeatedByDebts x = Due.people(0, 0, 0, 0, 0, 0, 0, 0);
        Due.is("sheet 4", x.film(4), -2);
        Due.is("sheet -1", x.film(-1), -2);
        x.set(3, 0, 2);
        x.set(3, 1, 3);
        x.set(0, 0, 0);
        Due.is("the gladdest", x.tables(1), 1324);
        x.sheet(0, 2, 9);
        Due.is("film", x.film(0), 4);
        Due.is("its joy", x.table(0, 1), 6 + 20);
        Due.is("item 4", x.cell(0, 4, 0), -12);
        x.sheet(1, 0, 4);
        Due.is("it is of bytes", x.copy(0, 0, 1, 0, 4), 4);
        int[] order = {0, 2, 1, 3};
        for (int seat = 0; seat < 4; seat++) {
            // who sits on a seat is told by how a table of that one alone takes to others
            x.sheet(2, 0, 2);
            x.copy(0, seat, 2, 0, 1);
            for (int one = 0; one < 4; one++) {
                x.cell(2, 1, one);
                Due.is("seat " + seat + " is not " + one, x.table(2, 0), one == order[seat] ? -100000 : 1);
            }
        }
        SeatedByDebts turned = Due.people(0, 1, 0, 2);
        turned.set(0, 0, 0);
        turned.force(Due.read(turned, "forgives 0;lends 0;joys (seat=0)*number;"));
        Due.is("1 ahead of 0", turned.film(0), 2);
        Due.is("its joy", turned.table(0, 1), 2);
        SeatedByDebts nobody = new SeatedByDebts();
        nobody.sheet(0, 1, 3);
        Due.is("nobody", nobody.film(0), 0);
        Due.is("a row of none", nobody.cell(0, 0, 0), -12);
        Due.is("a table of nobody", nobody.table(0, 0), 1);
    }

    private static void filmOfNone() {
        SeatedByDebts x = Due.people(0, 0, 0, 0, 0, 0, 0, 0);
        for (int i = 1; i < 4; i++) x.owe(i, 0, 9);
        Due.is("there is none", x.tables(0), 0);
        x.sheet(0, 0, 1);
        Due.is("there is none, of a missing sheet", x.film(1), 0);
        isRowOfNoBytes(x, 1);
        x.sheet(1, 2, 5);
        Due.is("there is none, of a row of ints", x.film(1), 0);
        isRowOfNoBytes(x, 1);
        x.film(1);
        Due.is("no such sheet changes nothing", x.film(4), -2);
        isRowOfNoBytes(x, 1);
        Due.is("a dinner of nobody", x.dine(1), 27);
        Due.is("is a dinner", x.count(3), 1);
        Due.is("it tells no table of all", x.tells(1, 0, 0), -2);
        x.owe(3, 0, 0);
        Due.is("with a table again", x.film(1), 4);
        Due.is("it is one of four", x.cell(1, 3, 0), 1);
        Due.is("and no more", x.cell(1, 4, 0), -12);
    }

    /** Sheet 0 is a row of bytes then. */
    private static void isRowOfNoBytes(SeatedByDebts x, int sheet) {
        Due.is("it has no items", x.cell(sheet, 0, 0), -12);
        Due.is("it is of bytes", x.copy(sheet, 0, 0, 0, 0), 0);
        Due.is("it tells a lawful table of nobody", x.table(sheet, 0), 1);
        Due.is("of no joy", x.table(sheet, 1), 0);
        Due.is("that clears nothing", x.table(sheet, 2), x.count(1));
    }

    private static int debtOfDraw(int seed, int nth) {
        int z = seed;
        for (int i = 0; i <= nth; i++) z = z * 1103515245 + 12345;
        return (z >>> 9) % 100;
    }

    private static void drawn() {
        // long, three guests: whether each one's creditor can be beside, as the document's own draw tells
        for (int seed = -300; seed < 300; seed++) {
            SeatedByDebts x = Due.people(0, 0, 5, 0, 1, 3);
            x.set(0, 0, 0);
            x.owe(0, 1, 500);
            int drawn = x.drawn(seed * 7919);
            Due.is("in thought", x.count(1), 500);
            int nth = 0;
            for (int one = 0; one < 3; one++) {
                for (int other = 0; other < 3; other++) {
                    if (one != other) x.owe(one, other, debtOfDraw(seed * 7919, nth++));
                }
            }
            Due.is("drawn by " + seed, drawn, x.tables(0));
        }
        Due.is("nobody", new SeatedByDebts().drawn(1), 1);
    }

    private static void chance() {
        SeatedByDebts x = Due.people(0, 0, 0, 0, 0, 0, 0, 0, 0, 0, 0, 0);
        for (int n = 1; n <= 20; n++) {
            int having = 0;
            for (int i = 0; i < n; i++) having += x.drawn(Integer.MAX_VALUE - 7 + i) > 0 ? 1 : 0;
            long above = x.chance(Integer.MAX_VALUE - 7, n, 0), below = x.chance(Integer.MAX_VALUE - 7, n, 1);
            Due.is("the same part of " + n, above * n, having * below);
            for (int d = 2; d <= 20; d++) Due.is(d + " divides both", above % d == 0 && below % d == 0 ? 1 : 0, 0);
        }
        Due.is("n 0", x.chance(0, 0, 0), SeatedByDebts.NO);
        Due.is("n -1", x.chance(0, -1, 0), SeatedByDebts.NO);
        Due.is("n 21", x.chance(0, 21, 0), SeatedByDebts.NO);
        Due.is("part 2", x.chance(0, 1, 2), SeatedByDebts.NO);
        Due.is("part -1", x.chance(0, 1, -1), SeatedByDebts.NO);
        SeatedByDebts hosts = Due.people(2, 0, 2, 0, 2, 0, 2, 0);
        Due.is("hosts always can: above", hosts.chance(5, 20, 0), 1);
        Due.is("hosts always can: below", hosts.chance(5, 20, 1), 1);
        SeatedByDebts seven = Due.people(0, 0, 0, 0, 0, 0, 0, 0, 0, 0, 0, 0, 0, 0);
        int seed = 0;
        while (seven.drawn(seed) > 0) seed++;
        Due.is("none has any: above", seven.chance(seed, 1, 0), 0);
        Due.is("none has any: below", seven.chance(seed, 1, 1), 1);
    }

    private static void imageAndBack() {
        SeatedByDebts x = Due.people(0, 1, 1, 2, 2, 3);
        Due.is("none yet", x.back(), -3);
        x.owe(0, 1, 10);
        x.owe(2, 0, 20);
        x.set(0, 0, 0);
        x.set(1, 0, 5);
        x.set(3, 0, 2);
        Due.is("a text", Due.read(x, "forgives 1;lends 1;joys 1;"), 1);
        x.force(1);
        Due.is("image", x.image(), 3);
        for (int time = 0; time < 2; time++) {
            x.set(0, 0, 1);
            x.set(1, 0, 6);
            x.set(2, 0, 9);
            x.set(3, 0, -1);
            x.set(3, 1, 0);
            x.owe(0, 1, 0);
            x.owe(1, 2, 77);
            x.force(0);
            x.guest(5, 5);
            x.owe(0, 3, 9);
            x.owe(3, 0, 9);
            x.set(3, 2, 3);
            x.sheet(0, 0, 2 + time);
            x.feed(65);
            Due.is("back", x.back(), 3);
            Due.is("people", x.count(0), 3);
            Due.is("owed", x.count(1), 30);
            Due.is("dinners", x.count(3), 5);
            Due.is("round", x.told(0, 0), 0);
            Due.is("the rule", x.count(6), 1);
            Due.is("texts are not kept", x.count(4), 2);
            Due.is("nor the tape", x.count(5), 1 + time);
            Due.is("nor sheets", x.cell(0, 1 + time, 0), 1);
            Due.is("number", x.told(0, 2), 1);
            Due.is("wants", x.told(0, 3), 2);
            Due.is("wants none", x.told(1, 3), -1);
            Due.is("wants one who is gone", x.told(2, 3), -1);
            Due.is("who came is gone", x.told(3, 2), -2);
        }
        Due.is("who comes anew", x.guest(0, 0), 3);
        Due.is("owes nothing", x.told(3, 7), 0);
        Due.is("is owed nothing", x.told(0, 13), 0);
        Due.is("wants none", x.told(3, 3), -1);
        Due.is("an image more", x.image(), 4);
        x.owe(3, 0, 1);
        Due.is("back to that one", x.back(), 4);
        Due.is("owed", x.count(1), 30);
        SeatedByDebts nobody = new SeatedByDebts();
        Due.is("image of nobody", nobody.image(), 0);
        nobody.guest(0, 0);
        Due.is("back to nobody", nobody.back(), 0);
        Due.is("nobody", nobody.count(0), 0);
    }

    private static void count() {
        SeatedByDebts x = Due.people(0, 0, 0, 0);
        x.owe(0, 1, 999);
        x.owe(1, 0, 3);
        x.set(1, 0, 44);
        Due.read(x, "forgives 1;lends 1;joys 1;");
        x.force(1);
        x.feed(32);
        x.feed(32);
        int[] due = {2, 1002, 0, 44, 2, 2, 1};
        for (int what = 0; what < 7; what++) Due.is("count " + what, x.count(what), due[what]);
        Due.is("count 7", x.count(7), -2);
        Due.is("count -1", x.count(-1), -2);
    }
}
