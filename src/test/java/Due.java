/** Counts and prints the answers that are not as due. */
final class Due {
    private static int wrong = 0;
    private static int asked = 0;

    private Due() { }

    static void is(String call, long got, long want) {
        asked++;
        if (got != want) {
            wrong++;
            if (wrong <= 40) System.out.println(call + " answered " + got + ", due is " + want);
        }
    }

    /** A call of which a test tells the answer. */
    interface Call {
        long answer();
    }

    /** A refusal: the answer, and that nothing has changed. */
    static void refused(String call, SeatedByDebts x, Call refused, long want) {
        String before = Seen.of(x);
        is(call, refused.answer(), want);
        is(call + " (it changes nothing)", Seen.of(x).equals(before) ? 1 : 0, 1);
    }

    static int wrong() { return wrong; }

    static void end(String test) {
        System.out.println(test + ": " + asked + " answers, " + wrong + " not as due");
        if (wrong != 0) System.exit(1);
    }

    static SeatedByDebts people(int... kindsAndNumbers) {
        SeatedByDebts x = new SeatedByDebts();
        for (int i = 0; i + 1 < kindsAndNumbers.length; i += 2) x.guest(kindsAndNumbers[i], kindsAndNumbers[i + 1]);
        return x;
    }

    static void lay(SeatedByDebts x, int sheet, int... items) {
        x.sheet(sheet, 2, items.length);
        for (int i = 0; i < items.length; i++) x.cell(sheet, i, items[i]);
    }

    static int read(SeatedByDebts x, String text) {
        for (int i = 0; i < text.length(); i++) x.feed(text.charAt(i));
        return x.text();
    }
}
