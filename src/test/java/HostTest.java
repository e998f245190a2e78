/** Promises 23 to 27: sheet, cell, copy, guests, taken. */
public final class HostTest {
    public static void main(String[] args) {
        sheet();
        cell();
        copy();
        guests();
        taken();
        Due.end("HostTest");
    }

    private static void sheet() {
        SeatedByDebts x = Due.people(0, 0);
        Due.is("sheet 4", x.sheet(4, 0, 0), -2);
        Due.is("sheet -1", x.sheet(-1, 0, 0), -2);
        Due.is("sort 3", x.sheet(0, 3, 0), -2);
        Due.is("sort -2", x.sheet(0, -2, 0), -2);
        Due.is("sort ahead of a size below 0", x.sheet(0, 3, -1), -2);
        Due.is("n 41", x.sheet(0, 0, 41), -2);
        Due.is("n -1", x.sheet(0, 0, -1), -14);
        Due.is("still missing", x.cell(0, 0, 0), -11);
        for (int s = 0; s < 4; s++) {
            for (int sort = 0; sort < 3; sort++) Due.is("a row", x.sheet(s, sort, 40), 1);
            Due.is("its last item", x.cell(s, 39, 5), 1);
            Due.is("a row anew", x.sheet(s, 2, 1), 1);
            Due.is("is shorter", x.cell(s, 1, 5), -12);
            Due.is("all 0", x.table(s, 0), 1);
            Due.is("missing, whatever n", x.sheet(s, -1, s % 2 == 0 ? -9 : 99), 1);
            Due.is("is missing", x.cell(s, 0, 5), -11);
        }
        x.sheet(0, 0, 1);
        x.cell(0, 0, 9);
        x.sheet(0, 0, 1);
        Due.is("all 0 again", x.table(0, 0), 1);
    }

    private static void cell() {
        SeatedByDebts x = Due.people(0, 0, 0, 0);
        Due.is("sheet 4", x.cell(4, 0, 0), -2);
        Due.is("sheet -1", x.cell(-1, 0, 0), -2);
        Due.is("missing", x.cell(0, -1, 0), -11);
        x.sheet(0, 0, 1);
        Due.is("item 1", x.cell(0, 1, 0), -12);
        Due.is("item -1", x.cell(0, -1, 0), -12);
        // the item is told by whether a table of it and number 0 is one: it is, if it is number 1
        int[][] cases = {
            {0, 1, 1}, {0, 257, 1}, {0, -255, 1}, {0, 255, 0}, {0, 65537, 1}, {1, 1, 1}, {1, 257, 0}, {1, 65537, 1}, {1, -65535, 1},
            {2, 1, 1}, {2, 257, 0}, {2, 65537, 0}, {2, -2147483647, 0},
        };
        for (int[] c : cases) {
            x.sheet(0, c[0], 2);
            Due.is("cell", x.cell(0, 1, c[1]), 1);
            Due.is("sort " + c[0] + " of " + c[1], x.table(0, 0), c[2] == 1 ? 1 : -100000);
        }
    }

    /** Whether a sheet has the items 0, 1, 2 .. in this order: tells them by guests that come. */
    private static void items(String call, SeatedByDebts x, int sheet, int sort, int... want) {
        x.image();
        for (int i = 0; i + 1 < want.length; i += 2) {
            int one = x.count(0);
            Due.is(call + ": comes", x.guests(sheet, sort, i, 1), 1);
            Due.is(call + ": item " + i, x.told(one, 4), want[i]);
            Due.is(call + ": item " + (i + 1), x.told(one, 2), want[i + 1]);
            x.back();
        }
    }

    private static SeatedByDebts row(int sort, int... items) {
        SeatedByDebts x = new SeatedByDebts();
        x.sheet(0, sort, items.length);
        for (int i = 0; i < items.length; i++) x.cell(0, i, items[i]);
        return x;
    }

    private static void copy() {
        SeatedByDebts x = row(1, 0, 1, 2, 3, 4, 5);
        Due.is("sheet 4", x.copy(4, 0, 0, 0, 0), -2);
        Due.is("other 4", x.copy(0, 0, 4, 0, 0), -2);
        Due.is("sheet -1", x.copy(-1, 0, 0, 0, 0), -2);
        Due.is("other -1", x.copy(0, 0, -1, 0, 0), -2);
        Due.is("missing", x.copy(1, 0, 0, 0, 0), -11);
        Due.is("other missing", x.copy(0, 0, 1, 0, -1), -11);
        x.sheet(1, 2, 4);
        Due.is("unlike sorts", x.copy(0, 0, 1, 0, -1), -13);
        x.sheet(1, 1, 4);
        Due.is("n -1", x.copy(0, 0, 1, 0, -1), -12);
        Due.is("i -1", x.copy(0, -1, 1, 0, 1), -12);
        Due.is("j -1", x.copy(0, 0, 1, -1, 1), -12);
        Due.is("behind its end", x.copy(0, 5, 1, 0, 2), -12);
        Due.is("behind the other's end", x.copy(0, 0, 1, 3, 2), -12);
        Due.is("far behind", x.copy(0, Integer.MAX_VALUE, 1, 0, Integer.MAX_VALUE), -12);
        Due.is("far too many", x.copy(0, 1, 1, 0, Integer.MAX_VALUE), -12);
        Due.is("none, at the ends", x.copy(0, 6, 1, 4, 0), 0);
        Due.is("none, behind the end", x.copy(0, 7, 1, 0, 0), -12);
        Due.is("none, behind the other's end", x.copy(0, 0, 1, 5, 0), -12);
        items("nothing has come", x, 1, 1, 0, 0, 0, 0);
        Due.is("copy", x.copy(0, 2, 1, 1, 3), 3);
        items("copied", x, 1, 1, 0, 2, 3, 4);
        items("as it was", x, 0, 1, 0, 1, 2, 3, 4, 5);
        Due.is("forward onto itself", x.copy(0, 0, 0, 1, 5), 5);
        items("as they were", x, 0, 1, 0, 0, 1, 2, 3, 4);
        Due.is("backward onto itself", x.copy(0, 1, 0, 0, 5), 5);
        items("as they were", x, 0, 1, 0, 1, 2, 3, 4, 4);
    }

    private static void guests() {
        SeatedByDebts x = row(1, 9, 3, 4, 6, 1, 2, 8, 0, 10, 5);
        Due.is("sheet 4", x.guests(4, 1, 0, 1), -2);
        Due.is("sheet -1", x.guests(-1, 1, 0, 1), -2);
        Due.is("sort 3", x.guests(0, 3, 0, 1), -2);
        Due.is("sort -1", x.guests(0, -1, 0, 1), -2);
        Due.is("n 8", x.guests(0, 1, 0, 8), -2);
        Due.is("n -1", x.guests(0, 1, 0, -1), -2);
        Due.is("of another sort", x.guests(0, 0, 0, 0), -13);
        Due.is("of another sort, too", x.guests(0, 2, 0, 1), -13);
        Due.is("missing", x.guests(1, 2, 0, 0), -11);
        Due.is("none", x.guests(0, 1, 99, 0), 0);
        Due.is("from -1", x.guests(0, 1, -1, 1), -12);
        Due.is("from far", x.guests(0, 1, Integer.MAX_VALUE, 7), -12);
        Due.is("from far below", x.guests(0, 1, Integer.MIN_VALUE, 7), -12);
        Due.is("nobody came", x.count(0), 0);
        Due.is("3 4, not 6 1, 2 8, not 0 10", x.guests(0, 1, 1, 4), 2);
        Due.is("two came", x.count(0), 2);
        Due.is("kind of the first", x.told(0, 4), 3);
        Due.is("number of the first", x.told(0, 2), 4);
        Due.is("kind of the second", x.told(1, 4), 2);
        Due.is("number of the second", x.told(1, 2), 8);
        Due.is("half a pair: 2 8 comes, 5 has no number", x.guests(0, 1, 5, 3), -12);
        Due.is("one came", x.count(0), 3);
        SeatedByDebts full = row(0, new int[40]);
        Due.is("seven", full.guests(0, 0, 0, 7), 7);
        Due.is("no room", full.guests(0, 0, 0, 7), 0);
        Due.is("no room, and outside", full.guests(0, 0, 30, 7), -12);
        Due.is("seven still", full.count(0), 7);
        SeatedByDebts five = row(2, new int[14]);
        five.guests(0, 2, 0, 5);
        Due.is("room for two", five.guests(0, 2, 0, 7), 2);
        SeatedByDebts last = row(2, 0, 0, 1, 7);
        Due.is("the last pair", last.guests(0, 2, 2, 1), 1);
    }

    private static void taken() {
        String[] above = {"0", "01", "02", "013", "024", "05"};
        for (int kind = 0; kind < 6; kind++) {
            SeatedByDebts x = Due.people(kind, kind + 2);
            for (int k = 0; k < 6; k++) {
                int want = above[kind].indexOf('0' + k) >= 0 ? kind + 2 : -13;
                Due.is("kind " + kind + " taken for " + k, x.taken(0, k), want);
            }
            Due.is("k 6", x.taken(0, 6), -2);
            Due.is("k -1", x.taken(0, -1), -2);
            Due.is("none such", x.taken(1, 0), -11);
            Due.is("-1", x.taken(-1, 0), -11);
            Due.is("none such, k 6", x.taken(1, 6), -2);
        }
    }
}
