/**
 * The boundary cases that ../shared/DOC.md names of texts, under 'Terms': THE TAPE, TOKENS, TEXT, FAULT, what is told
 * and its bounds. Each row begins with the words that it would fail by.
 */
public final class TextEdgesTest {
    private static final String FIRST = "forgives 5 ; lends 2 ; joys 1 ;";

    public static void main(String[] args) {
        tape();
        words();
        numbers();
        signsAndBlanks();
        everyByte();
        grammar();
        tooEarly();
        open();
        manyTexts();
        oneBehindAnother();
        names();
        truth();
        wrapping();
        bounds();
        firstRule();
        Due.end("TextEdgesTest");
    }

    private static void says(String words, long got, long want) { Due.is(words, got, want); }

    private static int read(String text) { return Due.read(new SeatedByDebts(), text); }

    /** The answer of a text in which the token behind the ^ can't stand; without a ^ it is a text. */
    private static void marked(String words, String text) {
        int place = text.indexOf('^');
        says(words + ": [" + text + "]", read(text.replace("^", "")), place < 0 ? 1 : -100 - place);
    }

    private static String filled(String text, int size) {
        StringBuilder b = new StringBuilder(text);
        while (b.length() < size) b.append(' ');
        return b.toString();
    }

    private static void tape() {
        SeatedByDebts x = new SeatedByDebts();
        for (int i = 1; i <= 160; i++) says("THE TAPE (160 bytes at most): " + i, x.feed(i <= FIRST.length() ? FIRST.charAt(i - 1) : ' '), i);
        Due.refused("THE TAPE (160 bytes at most): not 161", x, () -> x.feed(';'), -4);
        says("THE TAPE (160 bytes at most): the 161st did not come, the text is one", x.text(), 1);
        says("a TEXT of 160 bytes", read(filled(FIRST.substring(0, 30), 159) + ";"), 1);
        says("a TEXT of 160 bytes that ends too early: its size", read(filled(FIRST.substring(0, 30), 160)), -260);
        says("a TEXT of no bytes ends too early: its size", read(""), -100);
        StringBuilder many = new StringBuilder("forgives 1");
        while (many.length() < 142) many.append("+1");
        many.append(";lends 1;joys 1;");
        says("a TEXT of as many TOKENS as have room", read(filled(many.toString(), 160)), 1);
    }

    private static void words() {
        marked("WORDS (a .. z), as long as can be", "^forgiveslends 5;lends 2;joys 1;");
        marked("WORDS (a .. z), as long as can be", "forgives 5;lends ^seatseat;joys 1;");
        marked("WORDS, as long as can be: seats is no seat", "forgives seats;lends seat;joys seats-seat;");
        marked("WORDS (a .. z): no A .. Z", "forgives ^Debt;lends 2;joys 1;");
        marked("a WORD that is neither KEY nor NAME: its first byte", "forgives 5 + ^five;lends 2;joys 1;");
        String[] unknown = {"xebt", "deb", "debtt", "xack", "numbex", "xeats", "xeat", "seatz", "wante", "xr", "o", "an", "xnd", "andd", "xot", "no", "nott", "a", "z"};
        // behind each token that might stand there, so that none is taken for the one ahead of it
        String[] ahead = {"", "-", "not ", "(", "1+", "1-", "1*", "1<", "1=", "1 or ", "1 and "};
        for (String word : unknown) {
            for (String a : ahead) marked("a WORD that is neither KEY nor NAME", "forgives " + a + "^" + word + " 1;lends 2;joys 1;");
            marked("a WORD that is neither KEY nor NAME", "forgives 1 ^" + word + " 1;lends 2;joys 1;");
            marked("a WORD that is neither KEY nor NAME", "^" + word + " 1;lends 2;joys 1;");
            marked("a WORD that is neither KEY nor NAME", "forgives 1;lends 2;joys 1;^" + word);
        }
        String[] names = {"debt", "back", "number", "seats", "seat", "wanted"};
        for (String name : names) {
            marked("NAMES are", "forgives " + name + ";lends " + name + ";joys " + name + ";");
            marked("NAMES are no KEYS", "^" + name + " 5;lends 2;joys 1;");
        }
        String[] keys = {"forgives", "lends", "joys", "or", "and"};
        for (String key : keys) marked("KEYS are no NAMES", "forgives ^" + key + ";lends 2;joys 1;");
        marked("KEYS: not is no NAME", "forgives not ^;lends 2;joys 1;");
    }

    private static void numbers() {
        marked("NUMBERS, 4 at most: 4", "forgives 9999;lends 0000;joys 0001;");
        marked("NUMBERS, 4 at most: not 5: its first byte", "forgives ^10000;lends 2;joys 1;");
        marked("NUMBERS, 4 at most: not 5, though it is 1", "forgives ^00001;lends 2;joys 1;");
        marked("NUMBERS, as many digits as stand there: no 1234 and 5", "forgives 1 + ^12345;lends 2;joys 1;");
        marked("NUMBERS, as many digits as stand there", "forgives ^99999999999999999999;lends 2;joys 1;");
        marked("NUMBERS: two are not one", "forgives 12 ^34;lends 2;joys 1;");
        marked("NUMBERS, WORDS side by side", "forgives 1or 2and 3;lends 2;joys 1;");
        marked("NUMBERS, WORDS side by side", "forgives debt^1;lends 2;joys 1;");
        marked("NUMBERS: no point", "forgives 1^.5;lends 2;joys 1;");
        marked("a NUMBER that is too long, where none can stand", "forgives 1 ^12345;lends 2;joys 1;");
    }

    private static void signsAndBlanks() {
        marked("SIGNS", "forgives(1+2-3*4<5);lends(1=2);joys-1;");
        marked("blanks (32, 10) may stand between", "\n\n forgives\n5\n ;\nlends\n 2;joys \n1\n;\n \n");
        marked("blanks may stand between: none in a WORD", "^for gives 5;lends 2;joys 1;");
        marked("blanks need not stand between", "forgives5;lends2;joys1;");
        marked("blanks (32, 10): no 13", "forgives 5^\r\n;lends 2;joys 1;");
        marked("blanks (32, 10): no 9", "forgives^\t5;lends 2;joys 1;");
        marked("blanks (32, 10): no 160", "forgives^\u00a05;lends 2;joys 1;");
        marked("SIGNS: no >", "forgives 1 ^> 2;lends 2;joys 1;");
        marked("SIGNS: no /", "forgives 1 ^/ 2;lends 2;joys 1;");
        marked("SIGNS: < and = are two", "forgives 1 <^= 2;lends 2;joys 1;");
    }

    private static void everyByte() {
        for (int b = 0; b < 256; b++) {
            boolean blank = b == 32 || b == 10;
            boolean joins = "+-*<=".indexOf(b) >= 0;
            // behind these the ; at place 12 can't stand
            int want = blank ? 1 : joins || b == ';' ? -112 : -111;
            says("a byte that begins none, or no TOKEN that can stand behind 5: " + b, read("forgives 5 " + (char) b + ";lends 2;joys 1;"), want);
            if (!blank) says("nor can any stand at the end: " + b, read(FIRST + (char) b), -100 - FIRST.length());
        }
    }

    private static void grammar() {
        marked("TEXT: forgives E ; lends E ; joys E ;", "forgives 5;lends 2;joys 1;");
        marked("TEXT: forgives ahead of lends", "^lends 2;forgives 5;joys 1;");
        marked("TEXT: lends ahead of joys", "forgives 5;^joys 1;lends 2;");
        marked("TEXT: nothing behind", "forgives 5;lends 2;joys 1;^;");
        marked("TEXT: nothing behind", "forgives 5;lends 2;joys 1;^forgives 5;lends 2;joys 1;");
        String[] expressions = {
            "1 or 1 or 1", "1 or ^;", "^or 1", "1 and 1 and 1", "1 and ^;", "^and 1", "1 or ^and 1", "1 and ^or 1", "not 1", "not not 1", "not ^;", "1 and not 1", "1 or not 1",
            "1 < 2", "1 = 2", "1 < 2 ^< 3", "1 = 2 ^= 3", "1 < ^not 2", "1 = ^not 2", "1 + ^not 2", "1 * ^not 2", "- ^not 2", "not 1 < 2", "(not 1) < 2", "(1 < 2) < 3", "1 < ^;", "^< 1", "^= 1",
            "1 + 2 + 3", "1 - 2 - 3", "1 + ^;", "1 - ^;", "^+ 1", "1 + ^+ 1", "1 + - 1", "1 - - 1", "1 * 2 * 3", "1 * ^;", "^* 1", "1 * - 1", "1 * ^* 1", "- 1", "- - 1", "- ^;", "-(1)",
            "(1)", "((1))", "(^)", "(1^;", "1^)", "(1)^)", "(1) ^(1)", "(1) ^1", "1 ^(1)", "debt ^back", "1 ^not 1", "(1 or 1) and (1 < 2)",
        };
        for (String e : expressions) {
            marked("E, AND, NOT, SUM, TERM, ONE", "forgives " + e + ";lends 2;joys 1;");
            if (e.indexOf('^') >= 0) continue;
            marked("E of joys, too", "forgives 5;lends 2;joys " + e + ";");
        }
    }

    /** Each beginning of a text: its size, or the place of a word that was cut. */
    private static void tooEarly() {
        String[] keys = {"forgives", "lends", "joys"};
        for (int size = 0; size < FIRST.length(); size++) {
            String text = FIRST.substring(0, size);
            String last = text.substring(text.lastIndexOf(' ') + 1);
            int place = size;
            for (String key : keys) if (!last.isEmpty() && !last.equals(key) && key.startsWith(last)) place = size - last.length();
            says("the text's size, if it ends too early: [" + text + "]", read(text), -100 - place);
            if (place == size) says("the text's size, with blanks behind: [" + text + "]", read(text + " \n "), -103 - size);
        }
        String[] ends = {"forgives (", "forgives (1", "forgives -", "forgives not", "forgives 1 <", "forgives 1 *", "forgives 1 or", "forgives (1)", "forgives 1 and not"};
        for (String text : ends) says("the text's size, if it ends too early: [" + text + "]", read(text), -100 - text.length());
    }

    private static void open() {
        String[] fits = {
            "(((((1)))))", "-----1", "not not not not not 1", "-(-(-1))", "not not not((1) )", "not(-(not 1))", "((((1))))-(((((1)))))", "-----1*-----1", "-----1+-----1 < -----1",
            "not not not not not 1 and not not not not not 1", "not not not not not 1 or not not not not not 1", "(not not not not 1) and (not not not not 1)", "(----1)", "1-----1", "1------1", "(((((1)+1)+1)+1)+1)",
            "not not not not not 1+1<1*1", "not not not not -1*-1+-1<-1", "-(1)-(1)-(1)-(1)-(1)-(1)", "(1)+(1)+(1)+(1)+(1)+(1)",
        };
        for (String e : fits) marked("while 5 of these are open: no more than 5", "forgives " + e + ";lends 1;joys 1;");
        String[] sixth = {
            "(((((^(1", "-----^-1", "not not not not not ^not 1", "((((-^-1", "((((-^(1", "----(^-1", "----(^(1", "((((not ^not 1", "((((not ^(1", "((((not ^-1", "not not not not not ^-1", "not not not not not ^(1",
            "not not not not not 1+^-1", "not not not not not 1<^(1", "not not not not not 1*^-1", "(((((1+^-1", "(((((1<^(1", "(((((1 and ^not 1", "(((((1 or ^(1", "not not not not not 1 and not not not not not ^not 1",
            "-(-(-^(1", "not(not(not ^(1", "1------^-1", "(((((1)+1)+((^(1",
        };
        for (String e : sixth) marked("a (, a not, a - ahead of a ONE while 5 of these are open", "forgives " + e);
        marked("a not that can't stand there is no matter of these", "forgives -----^not 1");
        marked("a - between two is none of these", "forgives (((((1-1-1-1-1-1-1)))));lends 2;joys 1;");
        marked("a ( till its ): behind it there is room again", "forgives (((((1))+((1)))));lends 2;joys 1;");
        marked("a ( till its ): but for one", "forgives (((((1))+((^(1");
        marked("a - till what it belongs to ends: its ONE", "forgives ((((-1)-(1))));lends 2;joys 1;");
        marked("a not till what it belongs to ends: its NOT, with < and all", "forgives ((((not 1<1 and (1)))));lends 2;joys 1;");
        marked("a not till what it belongs to ends: not yet behind its <", "forgives ((((not 1<^(1");
        marked("a not till what it belongs to ends: not yet behind its +", "forgives ((((not 1+^-1");
        marked("each E begins with none", "forgives (((((1)))));lends (((((1)))));joys (((((1)))));");
        marked("each E begins with none: but 6 are too many", "forgives 1;lends 1;joys (((((^(1");
    }

    private static void manyTexts() {
        SeatedByDebts x = new SeatedByDebts();
        says("6 TEXTS at most, TEXT 0 with them: 1 at first", x.count(4), 1);
        for (int i = 1; i <= 5; i++) {
            Due.refused("a TEXT that is not there yet is none: " + i, x, forcing(x, i), -2);
            says("6 TEXTS at most: " + i, Due.read(x, FIRST), i);
            if (i < 5) says("a FAULT makes none", Due.read(x, "?"), -100);
        }
        x.feed('?');
        Due.refused("6 TEXTS at most: no seventh", x, x::text, -4);
        for (int i = 0; i <= 5; i++) says("each is one: " + i, x.force(i), Math.max(0, i - 1));
        Due.refused("6 TEXTS at most: not 6", x, () -> x.force(6), -2);
        Due.refused("none below 0", x, () -> x.force(-1), -2);
    }

    /** Nothing of a TEXT or a FAULT that was read ahead of it is in a TEXT. */
    private static void oneBehindAnother() {
        SeatedByDebts x = Due.people(0, 0, 1, 0);
        x.owe(1, 0, 100);
        Due.lay(x, 0, 0, 1);
        says("a TEXT", Due.read(x, "forgives 10;lends 20;joys 30;"), 1);
        says("a FAULT", Due.read(x, "forgives 11;lends 21;joys 31;1"), -129);
        says("a TEXT behind these", Due.read(x, "forgives 12;lends 25;joys 32;"), 2);
        for (int text = 2; text > 0; text--) {
            x.force(text);
            says("what is forgiven and lent by TEXT " + text, x.table(0, 2), text == 1 ? 110 : 113);
            says("the joys of TEXT " + text, x.table(0, 1), text == 1 ? 55 : 59);
        }
        Due.read(x, "forgives 1;lends 2;joys 3;");
        x.force(3);
        says("what is forgiven and lent by TEXT 3", x.table(0, 2), 101);
    }

    private static Due.Call forcing(SeatedByDebts x, int text) { return () -> x.force(text); }

    /** How much more the joy of 0 with 1 beside is than a child's 3; 0 owes 1 40 and is owed 999. */
    private static int joys(String e, int... number) {
        SeatedByDebts x = Due.people(0, number.length > 0 ? number[0] : 7, 5, 0);
        x.owe(0, 1, 40);
        x.owe(1, 0, 999);
        int text = Due.read(x, "forgives 0;lends 0;joys " + e + ";");
        if (text < 0) return text - 100000;
        x.force(text);
        Due.lay(x, 0, 0, 1);
        return x.table(0, 1) - 3;
    }

    private static void names() {
        says("debt: what the neighbour OWES one", joys("debt=999"), 1);
        says("back: what one OWES the neighbour", joys("back"), 40);
        says("number: NUMBER: 0", joys("number", 0), 0);
        says("number: NUMBER: 9", joys("number", 9), 9);
        ofBoth();
        for (int n = 2; n <= 7; n++) {
            SeatedByDebts x = Due.people(new int[14]);
            int[] seats = new int[n];
            for (int i = 0; i < n; i++) seats[i] = 6 - i;
            Due.lay(x, 0, seats);
            x.force(Due.read(x, "forgives 0;lends 0;joys seats;"));
            int sides = n == 2 ? 2 : 2 * n;
            says("seats: how many sit there, ROUND: " + n, x.table(0, 1), sides * n);
            x.force(Due.read(x, "forgives 0;lends 0;joys (seat=" + (n - 1) + ")*50+(seat=0)*9+(seat=" + n + ")*99;"));
            says("seat: one's seat, from 0 on, ROUND: " + n, x.table(0, 1), n == 2 ? 59 : 118);
            x.set(0, 0, 0);
            says("seat: one's seat, from 0 on, long: " + n, x.table(0, 1), 59);
            x.set(3, 6, 5);
            x.force(Due.read(x, "forgives 0;lends 0;joys wanted*7;"));
            says("wanted: 1, if one WANTS the neighbour, else 0: " + n, x.table(0, 1), 17);
        }
    }

    /** Two guests, 3 and 8 by number: 0 owes 1 40 and wants 1, 1 owes 0 70 and wants none. */
    private static SeatedByDebts two(String lends, String joys) {
        SeatedByDebts x = Due.people(0, 3, 0, 8);
        x.owe(0, 1, 40);
        x.owe(1, 0, 70);
        x.set(3, 0, 1);
        x.force(Due.read(x, "forgives 0;lends " + lends + ";joys " + joys + ";"));
        return x;
    }

    private static void ofBoth() {
        String[] names = {"debt", "back", "number", "seats", "seat", "wanted"};
        int[] zero = {70, 40, 3, 2, 0, 1};
        int[] one = {40, 70, 8, 2, 1, 0};
        for (int i = 0; i < 6; i++) {
            SeatedByDebts x = two("0", names[i]);
            Due.lay(x, 0, 0, 1);
            says("each is GLAD by the own " + names[i], x.table(0, 1), zero[i] + 10 + one[i]);
            // the one on seat 1 lends first, so that all is for that one as it was
            SeatedByDebts y = two("(" + names[i] + "=" + one[i] + ")*5", "0");
            Due.lay(y, 0, 0, 1);
            y.dine(0);
            says("1 LENDS by the own " + names[i], y.told(0, 11), 45);
            SeatedByDebts z = two("(" + names[i] + "=" + (i == 4 ? 1 : zero[i]) + ")*5", "0");
            Due.lay(z, 0, 1, 0);
            z.dine(0);
            says("0 LENDS by the own " + names[i], z.told(1, 10), 75);
        }
    }

    private static void truth() {
        String[] yes = {"1 or 0", "0 or 7", "0-5 or 0", "7 or 7", "2 and 4", "-1 and 9999", "not 0", "not (1-1)", "not not 9", "0<1", "-1<0", "-9999<-9998", "0=0", "-1=0-1", "1 or 0 and 0", "not 0 or 1", "not 1=0",
            "not 1 and 0 or 1", "not 2<1", "(1<2)=1", "not 0<1 or 1"};
        String[] no = {"0 or 0", "0 and 7", "7 and 0", "0 and 0", "not 1", "not -1", "not 9999", "not not 0", "1<1", "2<1", "0<-1", "1=2", "(1 or 1) and 0", "not (0 or 1)", "not 0 and 0", "not 1<2", "not 1=1", "1 and 2=3"};
        for (String e : yes) says("1 (what is not 0 is true): " + e, joys(e), 1);
        for (String e : no) says("or 0: " + e, joys(e), 0);
        Object[][] values = {{"2+3*4", 14}, {"2*3+4", 10}, {"20-3-4", 13}, {"20-3+4", 21}, {"20-(3+4)", 13}, {"-2*3", -6}, {"-2-3", -5}, {"2--3", 5}, {"-(2+3)", -5}, {"--2", 2}, {"2*-3*-1", 6}, {"(1<2)+(2=2)+(not 0)", 3}};
        for (Object[] v : values) says("an E is an int: " + v[0], joys((String) v[0]), (Integer) v[1]);
    }

    private static void wrapping() {
        String most = "(9999*9999*21+4790*9999+8416)"; // 2147483647
        says("the greatest int is above 0", joys("0<" + most), 1);
        says("32 bits, wrapping: +", joys(most + "+1<0"), 1);
        says("32 bits, wrapping: + to the least", joys(most + "+1=0-" + most + "-1"), 1);
        says("32 bits, wrapping: -", joys("0<0-" + most + "-2"), 1);
        says("32 bits, wrapping: - ahead of a ONE, of the least", joys("-(" + most + "+1)<0"), 1);
        says("32 bits, wrapping: *", joys(most + "*2=-2"), 1);
        says("32 bits, wrapping: * of two large ones", joys(most + "*" + most + "=1"), 1);
        says("32 bits: < of the least and the greatest", joys(most + "+1<" + most), 1);
        says("32 bits: what wraps to 0 isn't true", joys("8192*8192*64 or 0"), 0);
    }

    /** What is forgiven, lent by a text's words, of 999 that a guest is owed by a miser of number 0. */
    private static int forgiven(String e) {
        SeatedByDebts x = Due.people(0, 0, 1, 0);
        x.owe(1, 0, 999);
        x.force(Due.read(x, "forgives " + e + ";lends 0;joys 0;"));
        Due.lay(x, 0, 0, 1);
        return 999 - x.table(0, 2);
    }

    private static int lent(String e) {
        SeatedByDebts x = Due.people(0, 0, 1, 0);
        x.force(Due.read(x, "forgives 0;lends " + e + ";joys 0;"));
        Due.lay(x, 0, 0, 1);
        return x.table(0, 2);
    }

    private static void bounds() {
        String[] e = {"98", "99", "100", "9999", "9999*9999*30", "1", "0", "-1", "-99", "-9999*9999", "-100", "-98"};
        int[] upward = {98, 99, 99, 99, 0, 1, 0, 0, 0, 0, 0, 0};
        int[] both = {98, 99, 99, 99, -99, 1, 0, -1, -99, -99, -99, -98};
        for (int i = 0; i < e.length; i++) {
            says("forgives (0 .. 99, else the bound): " + e[i], forgiven(e[i]), upward[i]);
            says("lends (0 .. 99, else the bound): " + e[i], lent(e[i]), upward[i]);
            says("joys (-99 .. 99, else the bound): " + e[i], joys(e[i]), both[i]);
        }
    }

    private static void firstRule() {
        SeatedByDebts x = Due.people(0, 0, 1, 0);
        Due.lay(x, 0, 0, 1);
        x.owe(1, 0, 100);
        says("TEXT 0, at first THE RULE", x.count(6), 0);
        says("TEXT 0: forgives 5 ; lends 2 ;", x.table(0, 2), 97);
        says("TEXT 0: joys 1 ;", x.table(0, 1), 1 + 1 - 5);
        Due.read(x, "forgives 50;lends 0;joys 50;");
        says("a TEXT that is read is not yet THE RULE", x.table(0, 2), 97);
        x.force(1);
        x.force(0);
        says("TEXT 0 stays what it is", x.table(0, 2), 97);
    }
}
