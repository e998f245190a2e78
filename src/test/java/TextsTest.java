/** Promises 6 to 8: feed, text, force; and what texts tell. */
public final class TextsTest {
    public static void main(String[] args) {
        feed();
        goodTexts();
        faults();
        nesting();
        fullTexts();
        values();
        facts();
        bounds();
        Due.end("TextsTest");
    }

    private static void feed() {
        SeatedByDebts x = new SeatedByDebts();
        Due.is("feed 256", x.feed(256), -2);
        Due.is("feed -1", x.feed(-1), -2);
        for (int i = 1; i <= 160; i++) Due.is("feed the byte " + i, x.feed(i % 2 == 0 ? 0 : 255), i);
        Due.is("feed too much", x.feed(32), -4);
        Due.is("feed what is no byte, too much", x.feed(256), -2);
        Due.is("the tape", x.count(5), 160);
        Due.is("its fault", x.text(), -100);
        Due.is("the tape then", x.count(5), 0);
        for (int i = 1; i <= 160; i++) x.feed(32);
        Due.is("blanks alone end too early", x.text(), -260);
    }

    private static void goodTexts() {
        SeatedByDebts x = new SeatedByDebts();
        Due.is("close", Due.read(x, "forgives5;lends(2);joys-1;"), 1);
        Due.is("wide", Due.read(x, "\n forgives 5 \n;\n lends 0002 ; joys not not 1 < 2 and 3 = 4 or 5 ; \n"), 2);
        Due.is("names", Due.read(x, "forgives debt+back*number;lends seats-seat;joys wanted;"), 3);
        Due.is("number and word side by side", Due.read(x, "forgives 1or 2and 3;lends 9999;joys 0;"), 4);
        Due.is("texts", x.count(4), 5);
        Due.is("the rule is as it was", x.count(6), 0);
    }

    private static void faults() {
        String[] texts = {
            // what stands behind the ^ can't stand there
            "^", "  ^", "^lends 1;", "^5", "forgives ^;", "forgives 5^", "forgives 5 ^lends", "forgives 5;^", "forgives 5; ^joys 1;",
            "forgives 5;lends 2;joys 1^", "forgives 5;lends 2;joys 1;^;", "forgives 5;lends 2;joys 1; ^forgives", "forgives 5;lends 2;joys 1;  ^$",
            "^forgive 5;", "^forgivess 5;", "^Forgives 5;", "forgives ^debts;", "forgives ^12345;", "forgives ^00000;", "forgives 12 ^34;",
            "forgives 5 ^?;", "forgives 5^\t;", "forgives ^/;", "forgives 1 < 2 ^< 3;", "forgives 1 = 2 ^= 3;", "forgives 1 < 2 ^= 3;", "forgives (1 < 2) < 3 ^< 4",
            "forgives 1 + ^not 2;", "forgives - ^not 2;", "forgives 1 < ^not 2;", "forgives 1 * ^+ 2;", "forgives ^+ 2;", "forgives 1 and ^and 2;", "forgives ^or 2;",
            "forgives (1^;", "forgives (^);", "forgives 1^);", "forgives (1)^)", "forgives ((1)^;", "forgives 1 ^(", "forgives debt ^debt;", "forgives 1 ^not 2;",
            "forgives ^lends;", "forgives ^joys", "forgives not^", "forgives not ^;", "forgives -^", "forgives 1 -^", "forgives (1 or 2^ ", "forgives 5^ab", "forgives ^debtz;", "forgives ^zdebt;", "forgives ^abcxyz",
            "forgives 1 <^", "forgives 5;lends 2;^forgives 1;", "forgives 5;lends 2; joys 1 ; ^5",
        };
        for (String marked : texts) {
            int place = marked.indexOf('^');
            String text = marked.substring(0, place) + marked.substring(place + 1);
            int want = -100 - (text.substring(place).isBlank() ? text.length() : place);
            SeatedByDebts x = new SeatedByDebts();
            Due.is("[" + marked + "]", Due.read(x, text), want);
            Due.is("no tape behind [" + marked + "]", x.count(5), 0);
            Due.is("no text by [" + marked + "]", x.count(4), 1);
        }
        SeatedByDebts x = new SeatedByDebts();
        x.feed(128);
        Due.is("byte 128", x.text(), -100);
        Due.is("behind a fault a text is read", Due.read(x, "forgives 1;lends 1;joys 1;"), 1);
    }

    private static void nesting() {
        String[] fine = {"(((((1)))))", "-----1", "not not not not not 1", "not (-(-1))", "(((((1)))))+(((((1)))))", "-----1 - -----1", "not not not not not 1 and not not not not not 1",
            "not not not not -1 < -1", "not not not not (1) < (1)", "1 - - - - - -1", "((((1 - 1 - 1))))"};
        for (String e : fine) Due.is("[" + e + "]", Due.read(new SeatedByDebts(), "forgives " + e + ";lends 1;joys 1;"), 1);
        String deep = "(((((1)))))";
        Due.is("five open in each part", Due.read(new SeatedByDebts(), "forgives " + deep + ";lends " + deep + ";joys " + deep + ";"), 1);
        Due.is("six open in the second", Due.read(new SeatedByDebts(), "forgives 1;lends (" + deep), -100 - 22);
        Due.is("six open in the third", Due.read(new SeatedByDebts(), "forgives 1;lends 1;joys (" + deep), -100 - 29);
        String[] marked = {"(((((^(1", "-----^-1", "not not not not not ^not 1", "not not not not not ^(1)", "not not not not not 1 < ^(1)", "not not not not not 1 + ^-1",
            "((((-^(1", "((((not ^not 1", "(((((1+^-1", "(((((^not", "not (not (not ^(1", "-(-(-^(1"};
        for (String e : marked) {
            int place = e.indexOf('^');
            Due.is("[" + e + "]", Due.read(new SeatedByDebts(), "forgives " + e.replace("^", "")), -100 - 9 - place);
        }
    }

    private static void fullTexts() {
        SeatedByDebts x = new SeatedByDebts();
        for (int i = 1; i < 6; i++) Due.is("text " + i, Due.read(x, "forgives " + i + ";lends 0;joys 0;"), i);
        x.feed(33);
        Due.is("no text more", x.text(), -4);
        Due.is("the tape stays", x.count(5), 1);
        Due.is("texts", x.count(4), 6);
        Due.is("force", x.force(5), 0);
        Due.is("force 6", x.force(6), -2);
        Due.is("force -1", x.force(-1), -2);
        Due.is("the rule", x.count(6), 5);
        Due.is("force back", x.force(0), 5);
        Due.is("force a text that is not there", new SeatedByDebts().force(1), -2);
    }

    /** What a text tells: the joy of the child's neighbour at a table of two (the child's own is 3). */
    private static int joys(String e) {
        SeatedByDebts x = Due.people(0, 7, 5, 0);
        x.owe(0, 1, 40);
        x.owe(1, 0, 50);
        int text = Due.read(x, "forgives 0;lends 0;joys " + e + ";");
        if (text < 0) return text;
        x.force(text);
        Due.lay(x, 0, 0, 1);
        return x.table(0, 1) - 3;
    }

    private static void values() {
        Object[][] cases = {
            {"7", 7}, {"-7", -7}, {"--7", 7}, {"2+3*4", 14}, {"2*3+4", 10}, {"10-3-4", 3}, {"10-3+4", 11}, {"(2+3)*4", 20}, {"-2*3", -6}, {"2*-3", -6}, {"1--1", 2},
            {"1<2", 1}, {"2<2", 0}, {"2<1", 0}, {"2=2", 1}, {"2=3", 0}, {"1+1<1+2", 1}, {"not 0", 1}, {"not 5", 0}, {"not not 5", 1}, {"not 1<2", 0}, {"not 2=3", 1}, {"not 0+5", 0},
            {"5 and 6", 1}, {"5 and 0", 0}, {"0 or 6", 1}, {"0 or 0", 0}, {"1 or 1 and 0", 1}, {"(1 or 1) and 0", 0}, {"not 1 or 1", 1}, {"not (1 or 1)", 0}, {"not 0 and 0", 0},
            {"3+(not 0)", 4}, {"-(1<2)", -1}, {"debt", 50}, {"back", 40}, {"number", 7}, {"seats", 2}, {"seat", 0}, {"wanted", 0}, {"debt-back", 10},
            {"9999*9999*9999*9999", Math.min(99, Math.max(-99, 9999 * 9999 * 9999 * 9999))}, {"9999*9999*9999", Math.min(99, Math.max(-99, 9999 * 9999 * 9999))},
            {"5*9999*9999<0", 5 * 9999 * 9999 < 0 ? 1 : 0}, {"0-9999*9999*43<0", -9999 * 9999 * 43 < 0 ? 1 : 0}, {"0010", 10}, {"1 = 1 and 2 = 2", 1}, {"0 and 0 or 1", 1},
        };
        for (Object[] c : cases) Due.is("joys " + c[0], joys((String) c[0]), (Integer) c[1]);
    }

    private static void facts() {
        // each gladness tells seats, seats and wishes of its own: 0 wants 2, who sits at the end
        SeatedByDebts x = Due.people(0, 0, 0, 0, 0, 0);
        x.set(3, 0, 2);
        x.force(Due.read(x, "forgives 0;lends 0;joys seat*10+seats+wanted;"));
        Due.lay(x, 0, 1, 0, 2);
        x.set(0, 0, 0);
        // long: seat 0 once 3, seat 1 twice 13 (once wanted, 1 + 10 more), seat 2 once 23
        Due.is("joy of a long one", x.table(0, 1), 3 + 13 + 13 + 11 + 23);
        x.set(0, 0, 1);
        Due.is("joy of a round one", x.table(0, 1), 6 + 26 + 11 + 46);
        // debt is what the neighbour owes the one who lets go, back the other way round
        SeatedByDebts y = Due.people(0, 3, 0, 8);
        y.force(Due.read(y, "forgives (debt=50)*4+(back=70)*2+(seat=1);lends 0;joys 0;"));
        y.owe(0, 1, 50);
        y.owe(1, 0, 70);
        Due.lay(y, 0, 0, 1);
        Due.is("owed behind it", y.dine(0), 43 + 70);
        Due.is("0 owes 1", y.told(0, 11), 43);
    }

    private static void bounds() {
        SeatedByDebts x = Due.people(0, 0, 0, 0);
        x.owe(0, 1, 500);
        x.owe(1, 0, 1);
        Due.lay(x, 0, 0, 1);
        x.force(Due.read(x, "forgives 100;lends 0-1;joys 100;"));
        Due.is("99 forgiven at most, none lent", x.table(0, 2), 401);
        Due.is("99 glad at most", x.table(0, 1), 198);
        x.force(Due.read(x, "forgives -1;lends 100;joys -100;"));
        Due.is("none forgiven, 99 lent at most", x.table(0, 2), 501 + 198);
        Due.is("-99 glad at least", x.table(0, 1), -198);
        x.owe(0, 1, 950);
        Due.is("999 owed at most", x.table(0, 2), 999 + 100);
    }
}
