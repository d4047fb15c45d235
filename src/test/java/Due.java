import java.util.List;

/** Counts the calls whose answer is not the one that is due. */
final class Due {
    private int asked;
    private int wrong;

    void due(String call, long got, long want) {
        asked++;
        if (got != want) {
            wrong++;
            System.out.println(call + " answered " + got + ", due is " + want);
        }
    }

    /** Rows "call = answer" (or a call whose answer is told elsewhere), one behind the other, under a sentence of the document. */
    void rows(NoZeroWithin x, String sentence, String... rows) {
        for (String row : rows) {
            int at = row.lastIndexOf(" = ");
            long got = Calls.ask(x, at < 0 ? row : row.substring(0, at));
            if (at >= 0) {
                due(sentence + ": " + row.substring(0, at), got, Long.parseLong(row.substring(at + 3)));
            }
        }
    }

    /** The same on a new object. */
    void edge(String sentence, String... rows) {
        rows(new NoZeroWithin(), sentence, rows);
    }

    void same(String what, List<Long> got, List<Long> want) {
        asked++;
        if (!got.equals(want)) {
            wrong++;
            System.out.println(what + " left " + got + ", due is " + want);
        }
    }

    void end() {
        System.out.println(wrong == 0 ? asked + " answers are as due" : wrong + " of " + asked + " answers are not as due");
        if (wrong != 0) {
            System.exit(1);
        }
    }

    /** Feeds a text, byte by byte; what text() answers. */
    static int say(NoZeroWithin x, String text) {
        for (int i = 0; i < text.length(); i++) {
            x.feed(1, text.charAt(i), 0, 0, 0, 0);
        }
        return x.text();
    }

    /** A sheet of a sort becomes just these numbers. */
    static void fill(NoZeroWithin x, int s, int sort, int... numbers) {
        x.sheet(s, sort, numbers.length);
        for (int i = 0; i < numbers.length; i++) {
            x.cell(s, i, numbers[i]);
        }
    }
}
