/** Promises 1 to 5: a new object, set, guest, owe, told. */
public final class PeopleTest {
    public static void main(String[] args) {
        newObject();
        set();
        guest();
        owe();
        told();
        must();
        Due.end("PeopleTest");
    }

    private static void newObject() {
        SeatedByDebts x = new SeatedByDebts();
        Due.is("new: people", x.count(0), 0);
        Due.is("new: owed", x.count(1), 0);
        Due.is("new: ruined", x.count(2), 0);
        Due.is("new: dinners", x.count(3), 0);
        Due.is("new: texts", x.count(4), 1);
        Due.is("new: tape", x.count(5), 0);
        Due.is("new: rule", x.count(6), 0);
        Due.is("new: round", x.told(0, 0), 1);
        Due.is("new: nobody's number", x.told(0, 2), -2);
        for (int s = 0; s < 4; s++) Due.is("new: sheet " + s + " is missing", x.cell(s, 0, 0), -11);
        Due.is("new: no image", x.back(), -3);
    }

    private static void set() {
        SeatedByDebts x = Due.people(0, 3, 1, 4);
        Due.is("set round", x.set(0, -99, 0), 1);
        Due.is("set round again", x.set(0, 99, 1), 0);
        Due.is("round of 2", x.set(0, 0, 2), -2);
        Due.is("round of -1", x.set(0, 0, -1), -2);
        Due.is("round stays", x.told(0, 0), 1);
        Due.is("dinners", x.set(1, 77, 999), 0);
        Due.is("dinners again", x.set(1, -1, 0), 999);
        Due.is("dinners of 1000", x.set(1, 0, 1000), -2);
        Due.is("dinners of -1", x.set(1, 0, -1), -2);
        Due.is("number", x.set(2, 1, 9), 4);
        Due.is("number again", x.set(2, 1, 0), 9);
        Due.is("number of 10", x.set(2, 1, 10), -2);
        Due.is("number of -1", x.set(2, 1, -1), -2);
        Due.is("number of nobody", x.set(2, 2, 1), -2);
        Due.is("number of -1st", x.set(2, -1, 1), -2);
        Due.is("wants", x.set(3, 0, 1), -1);
        Due.is("wants none", x.set(3, 0, -1), 1);
        Due.is("wants oneself", x.set(3, 0, 0), -2);
        Due.is("wants nobody", x.set(3, 0, 2), -2);
        Due.is("wants -2", x.set(3, 0, -2), -2);
        Due.is("nobody wants", x.set(3, 2, 0), -2);
        Due.is("what 4", x.set(4, 0, 0), -2);
        Due.is("what -1", x.set(-1, 0, 0), -2);
    }

    private static void guest() {
        SeatedByDebts x = new SeatedByDebts();
        Due.is("kind 6", x.guest(6, 0), -2);
        Due.is("kind -1", x.guest(-1, 0), -2);
        Due.is("number 10", x.guest(0, 10), -2);
        Due.is("number -1", x.guest(0, -1), -2);
        for (int i = 0; i < 7; i++) Due.is("guest " + i, x.guest(i % 6, i), i);
        Due.is("an eighth", x.guest(0, 0), -4);
        Due.is("an eighth of no kind", x.guest(6, 0), -2);
        Due.is("people", x.count(0), 7);
        for (int i = 0; i < 7; i++) {
            Due.is("kind of " + i, x.told(i, 4), i % 6);
            Due.is("number of " + i, x.told(i, 2), i);
            Due.is("wish of " + i, x.told(i, 3), -1);
            Due.is("debts of " + i, x.told(i, 7), 0);
        }
    }

    private static void owe() {
        SeatedByDebts x = Due.people(0, 0, 0, 0, 0, 0);
        Due.is("owe", x.owe(0, 1, 999), 0);
        Due.is("owe again", x.owe(0, 1, 3), 999);
        Due.is("owe back", x.owe(1, 0, 4), 0);
        Due.is("owe 1000", x.owe(0, 1, 1000), -2);
        Due.is("owe -1", x.owe(0, 1, -1), -2);
        Due.is("owe oneself", x.owe(1, 1, 1), -2);
        Due.is("owe nobody", x.owe(0, 3, 1), -2);
        Due.is("nobody owes", x.owe(3, 0, 1), -2);
        Due.is("owe -1st", x.owe(0, -1, 1), -2);
        Due.is("-1st owes", x.owe(-1, 0, 1), -2);
        Due.is("still owed", x.told(0, 11), 3);
        Due.is("still owed back", x.told(1, 10), 4);
    }

    private static void told() {
        SeatedByDebts x = Due.people(0, 7, 5, 1, 2, 2);
        x.set(3, 0, 2);
        x.set(1, 0, 12);
        x.owe(0, 1, 30);
        x.owe(0, 2, 30);
        Due.is("round, of nobody", x.told(-5, 0), 1);
        Due.is("dinners, of nobody", x.told(50, 1), 12);
        Due.is("number", x.told(0, 2), 7);
        Due.is("wants", x.told(0, 3), 2);
        Due.is("wants none", x.told(1, 3), -1);
        Due.is("kind", x.told(1, 4), 5);
        Due.is("creditor: of like ones the first", x.told(0, 5), 1);
        x.owe(0, 2, 31);
        Due.is("creditor: who is owed most", x.told(0, 5), 2);
        Due.is("no creditor", x.told(1, 5), -1);
        Due.is("must not without a creditor", x.told(1, 6), 0);
        Due.is("owes in all", x.told(0, 7), 61);
        Due.is("owes oneself", x.told(0, 10), 0);
        Due.is("owes 1", x.told(0, 11), 30);
        Due.is("owes 2", x.told(0, 12), 31);
        for (int what : new int[] {-1, 8, 9, 13, 16, 17, 100}) Due.is("what " + what, x.told(0, what), -2);
        for (int what = 2; what < 13; what++) Due.is("of nobody, " + what, x.told(3, what), -2);
        Due.is("of -1", x.told(-1, 2), -2);
    }

    private static void must() {
        int[][] cases = {
            // kind, number, debt, whether one must
            {0, 0, 1, 1}, {1, 3, 30, 0}, {1, 3, 31, 1}, {1, 0, 1, 1}, {2, 0, 999, 0}, {3, 6, 60, 0}, {3, 6, 61, 1},
            {3, 7, 999, 0}, {4, 0, 500, 0}, {4, 0, 501, 1}, {5, 0, 7, 1}, {5, 0, 8, 0}, {0, 9, 0, 0}, {5, 9, 0, 0},
        };
        for (int[] c : cases) {
            SeatedByDebts x = Due.people(c[0], c[1], 0, 0);
            x.owe(0, 1, c[2]);
            Due.is("kind " + c[0] + " number " + c[1] + " owing " + c[2] + " must", x.told(0, 6), c[3]);
        }
    }
}
