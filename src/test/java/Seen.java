/** All that can be asked of an object without changing it, as one text: what is refused leaves it as it was. */
final class Seen {
    private Seen() { }

    static String of(SeatedByDebts x) {
        StringBuilder b = new StringBuilder();
        for (int what = 0; what < 7; what++) b.append(x.count(what)).append(' ');
        for (int one = 0; one < 7; one++) for (int what = 0; what < 17; what++) b.append(x.told(one, what)).append(' ');
        for (int s = 0; s < 4; s++) {
            // a row is seen by what may be copied onto itself and into others, and by the table that it tells
            for (int n = 0; n <= 40; n += n < 8 ? 1 : 8) b.append(x.copy(s, 0, s, 0, n)).append(' ');
            for (int other = 0; other < 4; other++) b.append(x.copy(s, 0, other, 0, 0)).append(' ');
            for (int what = 0; what < 3; what++) b.append(x.table(s, what)).append(' ');
        }
        return b.toString();
    }
}
