/**
 * The boundary cases that ../shared/DOC.md names under 'Promise 1: A new object' to 'Promise 27: taken': what each call
 * refuses, in which order, and that it changes nothing then; and its smallest, largest, empty and full cases.
 */
public final class PromiseEdgesTest {
    private static final int MAX = Integer.MAX_VALUE, MIN = Integer.MIN_VALUE;
    private static final int NO_TABLE = -100000;

    public static void main(String[] args) {
        newObject();
        set();
        guest();
        owe();
        told();
        feed();
        text();
        force();
        table();
        dine();
        tables();
        bars();
        borrow();
        company();
        run();
        tells();
        film();
        drawn();
        chance();
        imageAndBack();
        count();
        sheet();
        cell();
        copy();
        copyOrder();
        guests();
        guestsOrder();
        taken();
        Due.end("PromiseEdgesTest");
    }

    private static void says(String words, long got, long want) { Due.is(words, got, want); }

    private static void refused(String words, SeatedByDebts x, Due.Call call, long want) { Due.refused(words, x, call, want); }

    private static SeatedByDebts people(int n) { return Due.people(new int[2 * n]); }

    /** Guests who all must sit by number 0. */
    private static SeatedByDebts crowd(int n) {
        SeatedByDebts x = people(n);
        for (int i = 1; i < n; i++) x.owe(i, 0, 9);
        return x;
    }

    private static void newObject() {
        SeatedByDebts x = new SeatedByDebts();
        says("1 new object: No PEOPLE", x.count(0), 0);
        for (int what = 2; what <= 16; what++) says("1 new object: No PEOPLE to be told of: " + what, x.told(0, what), -2);
        int[] counts = {0, 0, 0, 0, 1, 0, 0};
        for (int what = 0; what < 7; what++) says("1 new object: count " + what, x.count(what), counts[what]);
        SeatedByDebts other = people(7);
        other.set(0, 0, 0);
        other.sheet(0, 0, 0);
        other.image();
        says("1 new object: nothing of another one", new SeatedByDebts().count(0), 0);
        says("1 new object: ROUND beside another one", x.told(0, 0), 1);
        says("1 new object: no SHEET of another one", x.cell(0, 0, 0), -11);
        says("1 new object: no IMAGE of another one", x.back(), -3);
    }

    private static void set() {
        SeatedByDebts x = people(2);
        int[] any = {-1, 0, 1, 2, 7, MAX, MIN};
        for (int of : any) {
            says("2 set: ROUND: of does not matter: " + of, x.set(0, of, 1), 1);
            says("2 set: DINNERS: of does not matter: " + of, x.set(1, of, 7), of == -1 ? 0 : 7);
        }
        for (int v : new int[] {-1, 2, MAX, MIN}) refused("2 set: ROUND: BAD: v " + v, x, () -> x.set(0, 0, v), -2);
        for (int v : new int[] {-1, 1000, MAX, MIN}) refused("2 set: DINNERS: BAD: v " + v, x, () -> x.set(1, 0, v), -2);
        for (int v : new int[] {-1, 10, MAX, MIN}) refused("2 set: NUMBER: BAD: v " + v, x, () -> x.set(2, 0, v), -2);
        for (int v : new int[] {-2, 0, 2, 7, MAX, MIN}) refused("2 set: whom one WANTS: BAD: v " + v, x, () -> x.set(3, 0, v), -2);
        for (int of : new int[] {-1, 2, 7, MAX, MIN}) {
            refused("2 set: NUMBER: BAD: of " + of, x, () -> x.set(2, of, 1), -2);
            refused("2 set: whom one WANTS: BAD: of " + of, x, () -> x.set(3, of, 1), -2);
            refused("2 set: whom one WANTS: BAD, NONE, too: of " + of, x, () -> x.set(3, of, -1), -2);
        }
        for (int what : new int[] {-1, 4, MAX, MIN}) refused("2 set: BAD: what " + what, x, () -> x.set(what, 0, 1), -2);
        says("2 set: what it was: NONE", x.set(3, 1, 0), -1);
        says("2 set: what it was: number 0", x.set(3, 1, -1), 0);
        says("2 set: what it was: the same", x.set(2, 1, 0), 0);
        says("2 set: what it was: NUMBER 0", x.set(2, 1, 9), 0);
        says("2 set: what it was: NUMBER 9", x.set(2, 1, 0), 9);
        says("2 set: what it was: ROUND", x.set(0, 0, 0), 1);
        says("2 set: what it was: long", x.set(0, 0, 0), 0);
        says("2 set: v: it is long", x.told(0, 0), 0);
        says("2 set: what it was: DINNERS", x.set(1, 0, 0), 7);
    }

    private static void guest() {
        SeatedByDebts x = new SeatedByDebts();
        for (int v : new int[] {-1, 6, MAX, MIN}) refused("3 guest: BAD: kind " + v, x, () -> x.guest(v, 0), -2);
        for (int v : new int[] {-1, 10, MAX, MIN}) refused("3 guest: BAD: number " + v, x, () -> x.guest(0, v), -2);
        says("3 guest: the number: 0", x.guest(0, 0), 0);
        for (int i = 1; i < 7; i++) says("3 guest: the number: " + i, x.guest(5, 9), i);
        refused("3 guest: FULL", x, () -> x.guest(5, 9), -4);
        refused("3 guest: BAD ahead of FULL: kind", x, () -> x.guest(6, 0), -2);
        refused("3 guest: BAD ahead of FULL: number", x, () -> x.guest(0, 10), -2);
    }

    private static void owe() {
        SeatedByDebts x = people(7);
        says("4 owe: what it was: 0", x.owe(0, 6, 999), 0);
        says("4 owe: what it was: 999", x.owe(0, 6, 0), 999);
        says("4 owe: the last OWES number 0", x.owe(6, 0, 1), 0);
        says("4 owe: it is one way alone", x.told(0, 16), 0);
        SeatedByDebts y = people(3);
        for (int i = 0; i < 3; i++) {
            int one = i;
            refused("4 owe: BAD: one and the same: " + i, y, () -> y.owe(one, one, 1), -2);
            refused("4 owe: BAD: one and the same, by 0: " + i, y, () -> y.owe(one, one, 0), -2);
        }
        for (int v : new int[] {-1, 3, 7, MAX, MIN}) {
            refused("4 owe: BAD: no such: one " + v, y, () -> y.owe(v, 0, 1), -2);
            refused("4 owe: BAD: no such: other " + v, y, () -> y.owe(0, v, 1), -2);
        }
        for (int v : new int[] {-1, 1000, MAX, MIN}) refused("4 owe: BAD: v " + v, y, () -> y.owe(0, 1, v), -2);
    }

    private static void told() {
        SeatedByDebts x = people(7);
        x.owe(5, 6, 33);
        x.owe(6, 0, 44);
        says("5 told: 16: what one OWES number 6", x.told(5, 16), 33);
        says("5 told: 10: what one OWES number 0", x.told(6, 10), 44);
        for (int i = 0; i < 7; i++) says("5 told: oneself: 0: " + i, x.told(i, 10 + i), 0);
        says("5 told: 5 the CREDITOR: NONE", x.told(0, 5), -1);
        says("5 told: 6 whether one MUST: 0 without a CREDITOR", x.told(0, 6), 0);
        says("5 told: 5 the CREDITOR: the last", x.told(5, 5), 6);
        says("5 told: 7 what one OWES all: 0", x.told(0, 7), 0);
        for (int i = 0; i < 6; i++) x.owe(6, i, 999);
        says("5 told: 7 what one OWES all: as much as can be", x.told(6, 7), 5994);
        x.set(3, 0, 6);
        says("5 told: 3 whom one WANTS: the last", x.told(0, 3), 6);
        says("5 told: 3 whom one WANTS: NONE", x.told(6, 3), -1);
        for (int of : new int[] {-1, 7, MAX, MIN}) {
            says("5 told: 0 as of set(): of does not matter: " + of, x.told(of, 0), 1);
            says("5 told: 1 as of set(): of does not matter: " + of, x.told(of, 1), 0);
            for (int what = 2; what <= 16; what++) says("5 told: BAD: of " + of + ", " + what, x.told(of, what), -2);
        }
        for (int what : new int[] {-1, 8, 9, 17, 18, 20, MAX, MIN}) says("5 told: BAD: what " + what, x.told(0, what), -2);
        SeatedByDebts y = people(3);
        for (int what = 13; what <= 17; what++) says("5 told: BAD: no such number: " + what, y.told(0, what), -2);
        says("5 told: 12: the last there is", y.told(0, 12), 0);
    }

    private static void feed() {
        SeatedByDebts x = new SeatedByDebts();
        for (int v : new int[] {-1, 256, MAX, MIN}) refused("6 feed: BAD: " + v, x, () -> x.feed(v), -2);
        says("6 feed: a byte: 0", x.feed(0), 1);
        says("6 feed: a byte: 255", x.feed(255), 2);
        for (int i = 3; i <= 160; i++) says("6 feed: how many it has", x.feed(32), i);
        refused("6 feed: FULL", x, () -> x.feed(32), -4);
        refused("6 feed: BAD ahead of FULL", x, () -> x.feed(256), -2);
        x.text();
        says("6 feed: behind THE TAPE, which is empty then", x.feed(32), 1);
    }

    private static void text() {
        SeatedByDebts x = new SeatedByDebts();
        says("7 text: -100 less the place of its FAULT: 0, of THE TAPE that is empty", x.text(), -100);
        says("7 text: THE TAPE is empty then, by a FAULT, too", Due.read(x, "forgives !"), -109);
        says("7 text: THE TAPE is empty then", x.count(5), 0);
        for (int i = 1; i <= 5; i++) {
            says("7 text: its number: " + i, Due.read(x, "forgives 1;lends 1;joys 1;"), i);
            says("7 text: THE TAPE is empty then: " + i, x.count(5), 0);
        }
        refused("7 text: FULL, ahead of a FAULT of no bytes", x, x::text, -4);
        x.feed('!');
        refused("7 text: FULL (ahead of all): THE TAPE stays", x, x::text, -4);
        says("7 text: THE TAPE stays: the next byte comes behind", x.feed(32), 2);
        for (int i = 3; i <= 160; i++) x.feed(32);
        refused("7 text: FULL, by THE TAPE that is full", x, x::text, -4);
        refused("7 text: and that stays full", x, () -> x.feed(32), -4);
    }

    private static void force() {
        SeatedByDebts x = new SeatedByDebts();
        for (int v : new int[] {-1, 1, 5, 6, MAX, MIN}) refused("8 force: BAD: " + v, x, () -> x.force(v), -2);
        says("8 force: which was: 0 at first", x.force(0), 0);
        Due.read(x, "forgives 1;lends 1;joys 1;");
        says("8 force: the last TEXT there is", x.force(1), 0);
        says("8 force: which was", x.force(1), 1);
        refused("8 force: BAD: one more", x, () -> x.force(2), -2);
        says("8 force: BAD leaves THE RULE", x.count(6), 1);
    }

    private static void table() {
        SeatedByDebts x = people(3);
        x.owe(0, 1, 7);
        Due.lay(x, 0, 0, 1, 2);
        Due.lay(x, 1);
        Due.lay(x, 2, 1, 1);
        for (int v : new int[] {-1, 4, MAX, MIN}) refused("9 table: -100000: SHEET " + v, x, () -> x.table(v, 0), NO_TABLE);
        for (int v : new int[] {-1, 3, MAX, MIN}) refused("9 table: -100000: what " + v, x, () -> x.table(0, v), NO_TABLE);
        for (int w = 0; w < 3; w++) {
            int what = w;
            refused("9 table: -100000: it is missing: " + w, x, () -> x.table(3, what), NO_TABLE);
            refused("9 table: -100000: one is twice there: " + w, x, () -> x.table(2, what), NO_TABLE);
        }
        for (int v : new int[] {-1, 3, 7, 255, MAX, MIN}) {
            Due.lay(x, 2, 0, v);
            says("9 table: -100000: it tells no TABLE: " + v, x.table(2, 0), NO_TABLE);
        }
        Due.lay(x, 2, new int[40]);
        says("9 table: -100000: 40 items tell no TABLE", x.table(2, 0), NO_TABLE);
        says("9 table: a SHEET of no items: whether it is LAWFUL", x.table(1, 0), 1);
        says("9 table: a SHEET of no items: JOY", x.table(1, 1), 0);
        says("9 table: a SHEET of no items: OWED behind a DINNER", x.table(1, 2), 7);
        String before = Seen.of(x);
        says("9 table: OWED behind a DINNER", x.table(0, 2), 2 + 12);
        says("9 table: in thought", Seen.of(x).equals(before) ? 1 : 0, 1);
        for (int sort = 0; sort < 3; sort++) {
            x.sheet(2, sort, 2);
            x.cell(2, 0, 2);
            says("9 table: a SHEET of any sort: " + sort, x.table(2, 1), 2);
        }
        SeatedByDebts nobody = new SeatedByDebts();
        nobody.sheet(0, 0, 0);
        says("9 table: nobody's TABLE of nobody", nobody.table(0, 0), 1);
        nobody.sheet(0, 0, 1);
        says("9 table: nobody sits there", nobody.table(0, 0), NO_TABLE);
        SeatedByDebts seven = people(7);
        Due.lay(seven, 0, 6, 5, 4, 3, 2, 1, 0);
        says("9 table: all seven", seven.table(0, 1), 14);
        Due.lay(seven, 0, 6, 5, 4, 3, 2, 1, 0, 0);
        says("9 table: not eight", seven.table(0, 1), NO_TABLE);
    }

    private static void dine() {
        SeatedByDebts x = people(3);
        x.owe(0, 1, 7);
        Due.lay(x, 0, 0, 1, 2);
        Due.lay(x, 1);
        Due.lay(x, 2, 1, 1);
        for (int dinners = 0; dinners <= 999; dinners += 999) {
            x.set(1, 0, dinners);
            for (int v : new int[] {-1, 4, MAX, MIN}) refused("10 dine: BAD: SHEET " + v, x, () -> x.dine(v), -2);
            refused("10 dine: -11, ahead of STATE", x, () -> x.dine(3), -11);
            refused("10 dine: BAD: it tells no TABLE, ahead of STATE", x, () -> x.dine(2), -2);
        }
        refused("10 dine: STATE: DINNERS are 999", x, () -> x.dine(0), -3);
        refused("10 dine: STATE: DINNERS are 999, by nobody, too", x, () -> x.dine(1), -3);
        x.set(1, 0, 998);
        says("10 dine: OWED then, by a TABLE of nobody", x.dine(1), 7);
        says("10 dine: DINNERS are 1 more: 999", x.told(0, 1), 999);
        x.set(1, 0, 0);
        says("10 dine: truly: OWED then", x.dine(0), 14);
        says("10 dine: truly", x.count(1), 14);
        says("10 dine: DINNERS are 1 more: 1", x.count(3), 1);
        SeatedByDebts wronged = crowd(4);
        Due.lay(wronged, 0, 0, 1, 2, 3);
        says("10 dine: by a TABLE that isn't LAWFUL, too", wronged.dine(0), 3 * 9 - 2 * 5 + 8 * 2);
    }

    private static void tables() {
        SeatedByDebts x = people(2);
        for (int v : new int[] {-1, 5, MAX, MIN}) refused("11 tables: BAD: " + v, x, () -> x.tables(v), -2);
        int[][] due = {
            // PEOPLE, then the five answers at a ROUND one, then at a long one
            {0, 1, 0, 0, 0, 0, 1, 0, 0, 0, 0}, {1, 1, 1, 0, 1, 0, 1, 1, 0, 1, 0}, {2, 1, 12, 2, 12, 4, 2, 12, 2, 12, 4}, {3, 2, 123, 6, 123, 12, 6, 123, 4, 123, 8},
            {7, 720, 1234567, 14, 1234567, 28, 5040, 1234567, 12, 1234567, 24},
        };
        for (int[] d : due) {
            SeatedByDebts y = people(d[0]);
            for (int what = 0; what < 5; what++) says("11 tables: " + d[0] + " PEOPLE, ROUND: " + what, y.tables(what), d[1 + what]);
            y.set(0, 0, 0);
            for (int what = 0; what < 5; what++) says("11 tables: " + d[0] + " PEOPLE, long: " + what, y.tables(what), d[6 + what]);
        }
        int[] none = {0, 0, 0, 0, -1};
        for (int what = 0; what < 5; what++) {
            SeatedByDebts y = crowd(4);
            says("11 tables: none LAWFUL: " + what, y.tables(what), none[what]);
        }
        String before = Seen.of(x);
        for (int what = 0; what < 5; what++) x.tables(what);
        for (int k = 0; k < 20; k++) clearest(k);
        says("11 tables: OWED then: in thought", Seen.of(x).equals(before) ? 1 : 0, 1);
    }

    /** Whether of all long tables of three hosts, who owe each other unlike debts, the first that clears most is told. */
    private static void clearest(int k) {
        SeatedByDebts x = Due.people(2, 0, 2, 1, 2, 2);
        x.set(0, 0, 0);
        for (int one = 0; one < 3; one++) for (int other = 0; other < 3; other++) x.owe(one, other, (37 * one * one + 91 * other + 53 * k * (one + 2 * other)) % 200);
        x.force(Due.read(x, "forgives debt*(seat=1)+back*(seat=2);lends seat*2;joys 0;"));
        int[][] orders = {{0, 1, 2}, {0, 2, 1}, {1, 0, 2}, {1, 2, 0}, {2, 0, 1}, {2, 1, 0}};
        int least = MAX, first = 0;
        for (int[] o : orders) {
            Due.lay(x, 0, o);
            if (x.table(0, 2) >= least) continue;
            least = x.table(0, 2);
            first = o[0] * 100 + o[1] * 10 + o[2] + 111;
        }
        says("11 tables: CLEAREST, of unlike debts: " + k, x.tables(3), first);
        says("11 tables: OWED then, of unlike debts: " + k, x.tables(4), least);
    }

    private static void bars() {
        says("12 bars: NONE, also if there is a LAWFUL one: nobody's", new SeatedByDebts().bars(), -1);
        says("12 bars: NONE, also if there is a LAWFUL one: of one", people(1).bars(), -1);
        says("12 bars: NONE, also if there is a LAWFUL one: of seven", people(7).bars(), -1);
        says("12 bars: NONE, also if 0 alone would make more", crowd(3).bars(), -1);
        says("12 bars: BARS", crowd(4).bars(), 1);
        says("12 bars: BARS: NONE", crowd(7).bars(), -1);
        SeatedByDebts x = crowd(4);
        String before = Seen.of(x);
        x.bars();
        says("12 bars: were it so: in thought", Seen.of(x).equals(before) ? 1 : 0, 1);
    }

    private static void borrow() {
        SeatedByDebts x = people(3);
        x.owe(0, 1, 999);
        for (int v : new int[] {-1, 3, 7, MAX, MIN}) {
            refused("13 borrow: BAD: no such: one " + v, x, () -> x.borrow(v, 0), -2);
            refused("13 borrow: BAD: no such: other " + v, x, () -> x.borrow(0, v), -2);
        }
        for (int v : new int[] {0, 1, 2}) refused("13 borrow: BAD: one and the same: " + v, x, () -> x.borrow(v, v), -2);
        refused("13 borrow: NONE", x, () -> x.borrow(0, 2), -1);
        refused("13 borrow: 0, and nothing is borrowed", x, () -> x.borrow(0, 1), 0);
        refused("13 borrow: 1, and nothing is borrowed", x, () -> x.borrow(2, 0), 1);
    }

    private static void company() {
        SeatedByDebts x = crowd(5);
        for (int v : new int[] {-1, 2, MAX, MIN}) refused("14 company: BAD: " + v, x, () -> x.company(v), -2);
        says("14 company: how many: 0 of nobody", new SeatedByDebts().company(1), 0);
        says("14 company: bits: 0 of nobody", new SeatedByDebts().company(0), 0);
        says("14 company: how many: 1", people(1).company(1), 1);
        says("14 company: how many: 7", people(7).company(1), 7);
        says("14 company: how many: 4 of 5", x.company(1), 4);
        says("14 company: bits: without number 0", x.company(0), 30);
    }

    private static void run() {
        SeatedByDebts x = people(2);
        for (int v : new int[] {-1, 21, MAX, MIN}) refused("15 run: BAD: n " + v, x, () -> x.run(v, 0), -2);
        for (int v : new int[] {-1, 3, MAX, MIN}) refused("15 run: BAD: what " + v, x, () -> x.run(1, v), -2);
        says("15 run: 0 held", x.run(0, 0), 0);
        says("15 run: OWED, by none", x.run(0, 1), 0);
        says("15 run: RUINED, by none", x.run(0, 2), 0);
        x.set(1, 0, 999);
        says("15 run: in thought: DINNERS are 999, and 20 are held", x.run(20, 0), 20);
        says("15 run: OWED at last, by one", x.run(1, 1), 4);
        says("15 run: none is LAWFUL: 0 are held", crowd(4).run(20, 0), 0);
        says("15 run: none is LAWFUL: OWED as it is", crowd(4).run(1, 1), 27);
        x.owe(1, 0, 999);
        says("15 run: none is RUINED by 999", x.run(20, 2), 0);
    }

    private static void tells() {
        SeatedByDebts x = people(3);
        Due.lay(x, 0, 0, 1, 2);
        Due.lay(x, 1, 0, 1);
        Due.lay(x, 2, 0, 1, 1);
        for (int v : new int[] {-1, 4, MAX, MIN}) refused("16 tells: BAD: SHEET " + v, x, () -> x.tells(v, 0, 0), -2);
        for (int sheet = 0; sheet <= 3; sheet += 3) {
            int s = sheet;
            for (int v : new int[] {-1, 3, 7, MAX, MIN}) refused("16 tells: BAD: one " + v + ", sheet " + s, x, () -> x.tells(s, v, 0), -2);
            for (int v : new int[] {-1, 3, 4, 9, 30, 31, 40, 110, MAX, MIN}) {
                for (int i = 0; i < 2; i++) {
                    int one = i;
                    refused("16 tells: BAD: what " + v + ", sheet " + s, x, () -> x.tells(s, one, v), -2);
                }
            }
            for (int v : new int[] {13, 16, 17, 18, 19, 23, 26, 27, 28, 29}) refused("16 tells: BAD: no such number: " + v + ", sheet " + s, x, () -> x.tells(s, 0, v), -2);
            for (int i = 0; i < 3; i++) {
                int one = i;
                refused("16 tells: BAD: one and the same: " + i + ", sheet " + s, x, () -> x.tells(s, one, 10 + one), -2);
                refused("16 tells: BAD: one and the same: " + i + ", sheet " + s, x, () -> x.tells(s, one, 20 + one), -2);
            }
        }
        for (int v : new int[] {0, 1, 2, 11, 22}) {
            refused("16 tells: -11: " + v, x, () -> x.tells(3, 0, v), -11);
            refused("16 tells: BAD: it tells no TABLE of all, but of some: " + v, x, () -> x.tells(1, 0, v), -2);
            refused("16 tells: BAD: it tells no TABLE: " + v, x, () -> x.tells(2, 0, v), -2);
        }
        String before = Seen.of(x);
        for (int v : new int[] {0, 1, 2, 11, 22}) x.tells(0, 0, v);
        says("16 tells: in thought", Seen.of(x).equals(before) ? 1 : 0, 1);
        SeatedByDebts seven = people(7);
        seven.set(0, 0, 0);
        Due.lay(seven, 0, 5, 0, 1, 2, 3, 4, 6);
        says("16 tells: 16: how many, to number 6", seven.tells(0, 4, 16), 1000);
        says("16 tells: 26: the greatest, to number 6", seven.tells(0, 0, 26), 0);
        says("16 tells: 10: how many, to number 0", seven.tells(0, 6, 10), 1);
        says("16 tells: 20: the greatest, to number 0", seven.tells(0, 5, 20), 999);
        SeatedByDebts one = people(1);
        Due.lay(one, 0, 0);
        says("16 tells: of one alone: the first such seat: NONE", one.tells(0, 0, 0), -1);
        says("16 tells: of one alone: KINDS", one.tells(0, 0, 1), 63);
        says("16 tells: of nobody", new SeatedByDebts().tells(0, 0, 0), -2);
    }

    private static void film() {
        SeatedByDebts x = people(7);
        for (int v : new int[] {-1, 4, MAX, MIN}) refused("17 film: BAD: " + v, x, () -> x.film(v), -2);
        for (int s = 0; s < 4; s++) {
            says("17 film: how many sit there: 7", x.film(s), 7);
            says("17 film: truly: the last seat", x.cell(s, 6, 6), 1);
            says("17 film: (bytes)", x.copy(s, 0, 0, 0, 7), 7);
            says("17 film: and no more", x.cell(s, 7, 0), -12);
        }
        SeatedByDebts none = crowd(4);
        none.sheet(1, 0, 0);
        none.sheet(0, 2, 40);
        says("17 film: 0: there is none", none.film(0), 0);
        says("17 film: a row of nobody then", none.cell(0, 0, 0), -12);
        says("17 film: of bytes", none.copy(0, 0, 1, 0, 0), 0);
        SeatedByDebts nobody = new SeatedByDebts();
        says("17 film: 0: nobody sits there", nobody.film(3), 0);
        says("17 film: a TABLE of nobody", nobody.table(3, 0), 1);
        SeatedByDebts one = people(1);
        says("17 film: 1 sits there", one.film(0), 1);
        says("17 film: number 0", one.table(0, 0), 1);
        SeatedByDebts bound = people(4);
        bound.set(0, 0, 0);
        bound.owe(0, 3, 9);
        says("17 film: 4 sit there", bound.film(0), 4);
        says("17 film: they sit as they must", bound.table(0, 0), 1);
        SeatedByDebts turned = Due.people(0, 1, 0, 2);
        turned.set(0, 0, 0);
        turned.force(Due.read(turned, "forgives 0;lends 0;joys (seat=0)*number;"));
        turned.film(0);
        says("17 film: another one than number 0 is on seat 0", turned.table(0, 1), 2);
    }

    private static void drawn() {
        for (int seed : new int[] {0, -1, 1, MAX, MIN}) {
            SeatedByDebts hosts = Due.people(2, 0, 2, 0, 2, 0, 2, 0);
            says("18 drawn: any SEED: hosts at a ROUND one: " + seed, hosts.drawn(seed), 6);
            hosts.set(0, 0, 0);
            says("18 drawn: any SEED: hosts at a long one: " + seed, hosts.drawn(seed), 24);
        }
        says("18 drawn: of nobody", new SeatedByDebts().drawn(5), 1);
        SeatedByDebts x = people(3);
        x.owe(0, 1, 999);
        refused("18 drawn: nothing is OWED truly", x, () -> x.drawn(0), 2);
    }

    private static void chance() {
        SeatedByDebts x = people(3);
        long no = -4611686018427387904L;
        for (int v : new int[] {-1, 0, 21, MAX, MIN}) refused("19 chance: NO: n " + v, x, () -> x.chance(0, v, 0), no);
        for (int v : new int[] {-1, 2, MAX, MIN}) refused("19 chance: NO: part " + v, x, () -> x.chance(0, 1, v), no);
        for (int seed : new int[] {0, -10, MAX, MAX - 18, MIN}) {
            refused("19 chance: all of 20: above, in lowest terms: " + seed, x, () -> x.chance(seed, 20, 0), 1);
            refused("19 chance: all of 20: below, in lowest terms: " + seed, x, () -> x.chance(seed, 20, 1), 1);
            says("19 chance: one of 1: above: " + seed, x.chance(seed, 1, 0), 1);
        }
    }

    private static void imageAndBack() {
        SeatedByDebts x = new SeatedByDebts();
        refused("21 back: STATE: there is none", x, x::back, -3);
        x.guest(0, 1);
        refused("21 back: STATE, with PEOPLE, too", x, x::back, -3);
        refused("20 image: how many of PEOPLE: 1; nothing else changes", x, x::image, 1);
        refused("21 back: how many of PEOPLE, where nothing has changed", x, x::back, 1);
        for (int i = 0; i < 6; i++) x.guest(0, 1);
        refused("20 image: how many of PEOPLE: 7", x, x::image, 7);
        says("21 back: to the last IMAGE", x.back(), 7);
        SeatedByDebts nobody = new SeatedByDebts();
        says("20 image: how many of PEOPLE: 0", nobody.image(), 0);
        for (int i = 0; i < 7; i++) nobody.guest(0, 1);
        says("21 back: to nobody", nobody.back(), 0);
        says("21 back: nobody is there", nobody.tables(1), 0);
        says("21 back: there is room for 7 then", nobody.guest(0, 0), 0);
        says("21 back: as often as one likes", nobody.back(), 0);
    }

    private static void count() {
        SeatedByDebts x = people(7);
        for (int one = 0; one < 7; one++) for (int other = 0; other < 7; other++) x.owe(one, other, 999);
        for (int i = 0; i < 160; i++) x.feed(32);
        x.set(1, 0, 999);
        int[] most = {7, 42 * 999, 127, 999, 1, 160, 0};
        for (int what = 0; what < 7; what++) says("22 count: as much as can be: " + what, x.count(what), most[what]);
        for (int v : new int[] {-1, 7, MAX, MIN}) refused("22 count: BAD: " + v, x, () -> x.count(v), -2);
    }

    private static void sheet() {
        SeatedByDebts x = people(2);
        x.sheet(0, 2, 2);
        x.cell(0, 1, 1);
        for (int v : new int[] {-1, 4, MAX, MIN}) {
            refused("23 sheet: BAD: no such SHEET: " + v, x, () -> x.sheet(v, 0, 1), -2);
            refused("23 sheet: BAD: no such SHEET, ahead of -14: " + v, x, () -> x.sheet(v, 0, -1), -2);
            refused("23 sheet: BAD: no such SHEET to be missing: " + v, x, () -> x.sheet(v, -1, 0), -2);
        }
        for (int v : new int[] {-2, 3, MAX, MIN}) {
            refused("23 sheet: BAD: sort " + v, x, () -> x.sheet(0, v, 1), -2);
            refused("23 sheet: BAD: sort, ahead of -14: " + v, x, () -> x.sheet(0, v, -1), -2);
        }
        for (int s = 0; s < 3; s++) {
            int sort = s;
            for (int v : new int[] {41, MAX}) refused("23 sheet: BAD: n above 40: " + v, x, () -> x.sheet(0, sort, v), -2);
            for (int v : new int[] {-1, MIN}) refused("23 sheet: -14: " + v, x, () -> x.sheet(0, sort, v), -14);
            says("23 sheet: a row of 40", x.sheet(1, sort, 40), 1);
            says("23 sheet: its last item", x.cell(1, 39, 1), 1);
            says("23 sheet: a row of none", x.sheet(1, sort, 0), 1);
            says("23 sheet: it has no item", x.cell(1, 0, 1), -12);
        }
        says("23 sheet: all 0, as it was not", x.sheet(0, 2, 2), 1);
        says("23 sheet: all 0: twice number 0", x.table(0, 0), NO_TABLE);
        for (int v : new int[] {-1, 0, 41, MAX, MIN}) {
            x.sheet(0, 0, 1);
            says("23 sheet: missing (sort -1: n does not matter): " + v, x.sheet(0, -1, v), 1);
            says("23 sheet: it is missing: " + v, x.cell(0, 0, 0), -11);
        }
        says("23 sheet: missing, where it is so", x.sheet(0, -1, 0), 1);
    }

    private static void cell() {
        SeatedByDebts x = people(2);
        x.sheet(0, 2, 2);
        x.cell(0, 1, 1);
        for (int v : new int[] {-1, 4, MAX, MIN}) refused("24 cell: BAD: no such SHEET: " + v, x, () -> x.cell(v, -1, 0), -2);
        for (int v : new int[] {-1, 0, 40, MAX, MIN}) refused("24 cell: -11, ahead of -12: " + v, x, () -> x.cell(1, v, 0), -11);
        for (int v : new int[] {-1, 2, 40, MAX, MIN}) refused("24 cell: -12: " + v, x, () -> x.cell(0, v, 0), -12);
        says("24 cell: item 0", x.cell(0, 0, 1), 1);
        says("24 cell: the last item", x.cell(0, 1, 0), 1);
        says("24 cell: they are 1 and 0", x.table(0, 0), 1);
        // sort, v, whether it is number 1 then
        int[][] cases = {{0, 1, 1}, {0, 257, 1}, {0, -255, 1}, {0, 65537, 1}, {0, 129, 0}, {1, 65537, 1}, {1, -65535, 1}, {1, 257, 0}, {1, -255, 0}, {1, 32769, 0}, {2, 1, 1}, {2, 65537, 0}, {2, 257, 0}, {2, MIN + 1, 0}};
        for (int[] c : cases) {
            x.sheet(2, c[0], 2);
            says("24 cell: any v: 1", x.cell(2, 1, c[1]), 1);
            says("24 cell: of bytes, shorts its lowest 8, 16 bits: sort " + c[0] + ", " + c[1], x.table(2, 0), c[2] == 1 ? 1 : NO_TABLE);
        }
    }

    /** A new object whose sheet 0 is a row of a sort. */
    private static SeatedByDebts row(int sort, int... items) {
        SeatedByDebts x = new SeatedByDebts();
        x.sheet(0, sort, items.length);
        for (int i = 0; i < items.length; i++) x.cell(0, i, items[i]);
        return x;
    }

    /** Whether a sheet's items are as they should be: they are told by seven people, who sit there one by one. */
    private static void holds(String words, SeatedByDebts x, int sheet, int sort, int... want) {
        x.image();
        while (x.count(0) < 7) x.guest(0, 0);
        for (int i = 0; i < want.length; i++) {
            for (int one = 0; one < 7; one++) {
                x.sheet(3, sort, 2);
                x.copy(sheet, i, 3, 0, 1);
                x.cell(3, 1, one);
                says(words + ": item " + i, x.table(3, 0), one == want[i] ? NO_TABLE : 1);
            }
        }
        x.back();
    }

    private static void copy() {
        SeatedByDebts x = row(1, 0, 1, 2, 3, 4, 5);
        x.sheet(1, 1, 4);
        for (int n = 0; n <= 4; n++) says("25 copy: n: " + n, x.copy(0, 0, 1, 0, n), n);
        holds("25 copy: all that has room", x, 1, 1, 0, 1, 2, 3);
        says("25 copy: up to both ends", x.copy(0, 5, 1, 3, 1), 1);
        holds("25 copy: to the last item", x, 1, 1, 0, 1, 2, 5);
        says("25 copy: none, at both ends", x.copy(0, 6, 1, 4, 0), 0);
        says("25 copy: onto itself, forward", x.copy(0, 0, 0, 1, 5), 5);
        holds("25 copy: (as they were)", x, 0, 1, 0, 0, 1, 2, 3, 4);
        says("25 copy: onto itself, backward", x.copy(0, 2, 0, 0, 4), 4);
        holds("25 copy: (as they were)", x, 0, 1, 1, 2, 3, 4, 3, 4);
        says("25 copy: onto itself, where it is", x.copy(0, 0, 0, 0, 6), 6);
        holds("25 copy: (as they were)", x, 0, 1, 1, 2, 3, 4, 3, 4);
        SeatedByDebts all = row(2, new int[40]);
        all.sheet(1, 2, 40);
        says("25 copy: 40", all.copy(0, 0, 1, 0, 40), 40);
        refused("25 copy: -12: 41", all, () -> all.copy(0, 0, 1, 0, 41), -12);
    }

    private static void copyOrder() {
        SeatedByDebts x = row(0, 0, 1, 2, 3);
        for (int i = 0; i < 7; i++) x.guest(0, 0);
        x.sheet(1, 0, 3);
        x.sheet(2, 2, 3);
        for (int v : new int[] {-1, 4, MAX, MIN}) {
            refused("25 copy: BAD: no such SHEET: " + v, x, () -> x.copy(v, 0, 1, 0, 1), -2);
            refused("25 copy: BAD: no such other SHEET: " + v, x, () -> x.copy(0, 0, v, 0, 1), -2);
            refused("25 copy: BAD ahead of -11: " + v, x, () -> x.copy(3, 0, v, 0, 1), -2);
            refused("25 copy: BAD ahead of -11: " + v, x, () -> x.copy(v, 0, 3, 0, 1), -2);
        }
        for (int v : new int[] {0, 1, -1, 9}) {
            refused("25 copy: -11 ahead of -12: n " + v, x, () -> x.copy(3, 0, 0, 0, v), -11);
            refused("25 copy: -11 ahead of -12, the other one: n " + v, x, () -> x.copy(0, 0, 3, 0, v), -11);
            refused("25 copy: -11, both: n " + v, x, () -> x.copy(3, 0, 3, 0, v), -11);
            refused("25 copy: -11, as of a row of ints: n " + v, x, () -> x.copy(2, 0, 3, 0, v), -11);
            refused("25 copy: -13: they are of unlike sorts, ahead of -12: n " + v, x, () -> x.copy(0, 0, 2, 0, v), -13);
            refused("25 copy: -13, the other way: n " + v, x, () -> x.copy(2, 9, 0, 9, v), -13);
        }
        int[][] outside = {{0, 0, -1}, {0, 0, MIN}, {-1, 0, 1}, {0, -1, 1}, {-1, 0, 0}, {0, -1, 0}, {4, 0, 1}, {0, 3, 1}, {5, 0, 0}, {0, 4, 0}, {3, 0, 2}, {0, 2, 2}, {0, 0, 4}, {0, 0, MAX}, {1, 0, MAX}, {0, 1, MAX},
            {MAX, 0, 1}, {0, MAX, 1}, {MAX, MAX, MAX}, {MIN, 0, 1}, {0, MIN, 1}, {MIN, MIN, MIN}, {4, 0, -1}, {0, 3, -3}, {-3, -3, 3}};
        for (int[] o : outside) refused("25 copy: -12 (also with n below 0): " + o[0] + ", " + o[1] + ", " + o[2], x, () -> x.copy(0, o[0], 1, o[1], o[2]), -12);
        holds("25 copy: nothing came", x, 1, 0, 0, 0, 0);
    }

    private static void guests() {
        SeatedByDebts full = row(0, new int[40]);
        says("26 guests: n of them (0 .. 7): 0", full.guests(0, 0, 0, 0), 0);
        says("26 guests: n of them: 0, from anywhere", full.guests(0, 0, 40, 0), 0);
        says("26 guests: n of them (0 .. 7): 7", full.guests(0, 0, 0, 7), 7);
        says("26 guests: others are left out: there is no room", full.guests(0, 0, 26, 7), 0);
        says("26 guests: seven are there", full.count(0), 7);
        SeatedByDebts six = row(0, new int[40]);
        six.guests(0, 0, 0, 6);
        says("26 guests: how many came: 1 of 7", six.guests(0, 0, 26, 7), 1);
        SeatedByDebts x = row(2, 0, 9, 6, 0, 5, 10, -1, 0, 0, -1, 5, 8, MAX, MIN, 2, 3);
        says("26 guests: (as of guest()) others are left out", x.guests(0, 2, 0, 7), 2);
        says("26 guests: KIND of the first", x.told(0, 4), 0);
        says("26 guests: NUMBER of the first", x.told(0, 2), 9);
        says("26 guests: KIND of the second", x.told(1, 4), 5);
        says("26 guests: NUMBER of the second", x.told(1, 2), 8);
        says("26 guests: the last pair", x.guests(0, 2, 14, 1), 1);
        says("26 guests: KIND of the last pair", x.told(2, 4), 2);
        says("26 guests: NUMBER of the last pair", x.told(2, 2), 3);
        says("26 guests: from an odd place: 8 is no KIND", x.guests(0, 2, 11, 1), 0);
        SeatedByDebts bytes = row(0, 256, 257, 5, 9);
        says("26 guests: bytes as they are in the SHEET", bytes.guests(0, 0, 0, 2), 2);
        says("26 guests: KIND by the lowest 8 bits", bytes.told(0, 4), 0);
        says("26 guests: NUMBER by the lowest 8 bits", bytes.told(0, 2), 1);
    }

    private static void guestsOrder() {
        SeatedByDebts x = row(1, 0, 1, 2, 3, 4);
        for (int v : new int[] {-1, 4, MAX, MIN}) refused("26 guests: BAD: no such SHEET: " + v, x, () -> x.guests(v, 1, 0, 1), -2);
        for (int sheet = 0; sheet < 2; sheet++) {
            int s = sheet;
            for (int v : new int[] {-1, 3, MAX, MIN}) refused("26 guests: BAD: no such sort: " + v + ", sheet " + s, x, () -> x.guests(s, v, 0, 1), -2);
            for (int v : new int[] {-1, 8, MAX, MIN}) refused("26 guests: BAD: no such n: " + v + ", sheet " + s, x, () -> x.guests(s, 0, 0, v), -2);
        }
        for (int n : new int[] {0, 1, 7}) {
            refused("26 guests: -13, ahead of -12: for bytes, n " + n, x, () -> x.guests(0, 0, 99, n), -13);
            refused("26 guests: -13, ahead of -12: for ints, n " + n, x, () -> x.guests(0, 2, -1, n), -13);
            for (int sort = 0; sort < 3; sort++) {
                int missing = sort;
                refused("26 guests: -11, ahead of -12: sort " + sort + ", n " + n, x, () -> x.guests(1, missing, -1, n), -11);
            }
        }
        for (int v : new int[] {-1, -2, 4, 5, 40, MAX, MAX - 1, MIN}) refused("26 guests: -12: nothing stood ahead: " + v, x, () -> x.guests(0, 1, v, 1), -12);
        refused("26 guests: -12: nothing stood ahead, of seven", x, () -> x.guests(0, 1, 4, 7), -12);
        says("26 guests: -12: what stood ahead came", x.guests(0, 1, 0, 3), -12);
        says("26 guests: -12: two stood ahead", x.count(0), 2);
        says("26 guests: -12: the first that came", x.told(0, 2), 1);
        says("26 guests: -12: the second that came", x.told(1, 4), 2);
        SeatedByDebts full = row(0, 0, 0, 0, 0);
        for (int i = 0; i < 7; i++) full.guest(0, 0);
        refused("26 guests: -12, where there is no room, too", full, () -> full.guests(0, 0, 0, 3), -12);
    }

    private static void taken() {
        SeatedByDebts x = Due.people(0, 9, 1, 8, 2, 7, 3, 6, 4, 5, 5, 0);
        int[][] under = {{0}, {0, 1}, {0, 2}, {0, 1, 3}, {0, 2, 4}, {0, 5}};
        for (int g = 0; g < 6; g++) {
            for (int k = 0; k < 6; k++) {
                boolean fits = false;
                for (int u : under[g]) fits |= u == k;
                int guest = g, kind = k;
                refused("27 taken: KIND " + g + " for " + k + ", or one under that one (also by others between)", x, () -> x.taken(guest, kind), fits ? x.told(g, 2) : -13);
            }
            int guest = g;
            for (int v : new int[] {-1, 6, MAX, MIN}) refused("27 taken: BAD: k " + v, x, () -> x.taken(guest, v), -2);
        }
        for (int v : new int[] {-1, 6, 7, MAX, MIN}) {
            refused("27 taken: -11: none such: " + v, x, () -> x.taken(v, 0), -11);
            refused("27 taken: -11, ahead of -13: " + v, x, () -> x.taken(v, 3), -11);
            refused("27 taken: BAD, ahead of -11: " + v, x, () -> x.taken(v, 6), -2);
        }
        x.set(2, 0, 0);
        says("27 taken: the NUMBER, as it was set: 0", x.taken(0, 0), 0);
    }
}
