/** The edges of clerks and writings, each under the document's own words: promises 8 to 13. */
public final class WritingEdgesTest {
    private static final Due D = new Due();

    public static void main(String[] args) {
        clerk();
        told();
        figures();
        turned();
        makes();
        writing();
        figure();
        reading();
        reads();
        plain();
        adds();
        D.end();
    }

    // ---- promises 8 and 9

    private static void clerk() {
        D.edge("of a KIND, with MORE (0 .. 9)", "clerk(0, 0) = 0", "clerk(5, 9) = 1", "clerk(-1, 0) = -2", "clerk(6, 0) = -2", "clerk(0, -1) = -2",
            "clerk(0, 10) = -2", "clerk(most, 0) = -2", "clerk(least, 0) = -2", "clerk(0, most) = -2", "clerk(0, least) = -2", "count(0) = 2");
        D.edge("CLERKS are numbered from 0 on, 5 at most", "clerk(0, 1) = 0", "clerk(1, 2) = 1", "clerk(2, 3) = 2", "clerk(3, 4) = 3",
            "clerk(4, 5) = 4", "clerk(5, 6) = -4", "count(0) = 5", "told(0, 0) = 0", "told(4, 0) = 4", "told(4, 1) = 5", "told(5, 0) = -5");
        D.edge("BAD; FULL.", "clerk(0, 0)", "clerk(0, 0)", "clerk(0, 0)", "clerk(0, 0)", "clerk(0, 0) = 4", "clerk(6, 0) = -2",
            "clerk(0, 10) = -2", "clerk(-1, -1) = -2", "clerk(5, 9) = -4");
    }

    private static void told() {
        String told = "Of a CLERK what 0 KIND, 1 MORE, 2 his FIGURES, 3 whether he writes TURNED (1, 0).";
        D.edge(told, "clerk(0, 0)", "clerk(3, 9)", "told(0, 0) = 0", "told(0, 1) = 0", "told(0, 2) = 10", "told(0, 3) = 0",
            "told(1, 0) = 3", "told(1, 1) = 9", "told(1, 2) = 7", "told(1, 3) = 1");
        D.edge("-5: no such CLERK; -7: what.", "told(0, 0) = -5", "clerk(0, 0)", "told(-1, 0) = -5", "told(1, 0) = -5", "told(1, 4) = -5",
            "told(0, 4) = -7", "told(0, -1) = -7", "told(0, most) = -7", "told(0, least) = -7", "told(most, 0) = -5", "told(least, 0) = -5");
    }

    // ---- KINDS

    private static void figures(String sentence, int kind, int more, int base, int want) {
        D.edge(sentence, "clerk(" + kind + ", " + more + ")", "set(0, " + base + ")", "told(0, 2) = " + want);
    }

    private static void figures() {
        for (int kind : new int[] {0, 1, 2, 4}) {
            for (int base = 2; base <= 12; base++) {
                figures("how many FIGURES one writes with, BASE being so many: kind " + kind, kind, 9, base, base);
            }
        }
        int[] fewer = {0, 0, 0, 1, 1, 1, 2, 2, 2, 3};
        for (int more = 0; more <= 9; more++) {
            for (int base = 2; base <= 12; base++) {
                figures("3 SHORT: MORE by 3 (cut) FIGURES fewer, 2 at least: MORE " + more, 3, more, base, Math.max(2, base - fewer[more]));
            }
        }
        for (int base = 2; base <= 12; base++) {
            figures("5 STRANGER: 1 FIGURE fewer, 2 at least", 5, 9, base, base == 2 ? 2 : base - 1);
        }
    }

    private static void turned() {
        int[] turned = {0, 1, 0, 1, 0, 0};
        for (int kind = 0; kind <= 5; kind++) {
            // 12 is 1 2 by ten, seven and nine figures are 1 5 and 1 3; a GENEROUS of MORE 0 makes 12.
            String first = kind == 1 ? "2" : kind == 3 ? "5" : "1";
            String second = kind == 1 || kind == 3 ? "1" : kind == 5 ? "3" : "2";
            D.edge("whether one writes TURNED (Whatever isn't told is as of the KIND above.): kind " + kind,
                "clerk(" + kind + ", " + (kind == 3 ? 9 : 0) + ")", "told(0, 3) = " + turned[kind], "figure(0, 12, 1) = " + first,
                "figure(0, 12, 2) = " + second, "figure(0, 12, 0) = 2");
        }
    }

    private static void makes() {
        String nought = "CLERK: of 0 nought, of others that";
        D.edge(nought, "clerk(0, 9)", "clerk(1, 9)", "clerk(3, 9)", "say nought 50;slips 0;costs 0; = 1", "adds(0, 0, 1) = 2", "force(1)",
            "adds(0, 0, 1) = 51", "adds(1, 0, 1) = 51", "adds(2, 0, 1) = 51", "adds(0, 10, 99999) = 100009", "adds(1, 10, 99999) = 100009",
            "adds(2, 10, 99999) = 100009");
        D.edge(nought + ": a nought that is 0", "clerk(0, 9)", "say nought 0;slips 0;costs 0; = 1", "force(1)", "adds(0, 0, 0) = 0", "figure(0, 0, 0) = 0");
        D.edge("v: the number that is meant: of a nought it is 0; off: else 0", "clerk(0, 9)", "say nought v*1000+off*100+5;slips 0;costs 0; = 1", "force(1)",
            "adds(0, 0, 7) = 12", "plain(0, 0) = 5", "figure(0, 0, 1) = 5");
        D.edge("2 KINDLY: MAKES 1 more of such as 10 divides (0, too).", "clerk(2, 9)", "adds(0, 1, 1) = 2", "adds(0, 9, 1) = 10", "adds(0, 10, 1) = 12",
            "adds(0, 11, 1) = 12", "adds(0, 20, 1) = 22", "adds(0, 100, 1) = 102", "adds(0, 99990, 1) = 99992", "adds(0, 99999, 1) = 100000",
            "adds(0, 0, 1) = 3", "say nought 0;slips 0;costs 0; = 1", "force(1)", "adds(0, 0, 1) = 2", "say nought 10;slips 0;costs 0; = 2",
            "force(2)", "adds(0, 0, 1) = 12", "set(0, 7)", "adds(0, 7, 1) = 8", "adds(0, 10, 1) = 12");
        D.edge("4 GENEROUS (a KINDLY): MAKES MORE more.", "clerk(4, 0)", "clerk(4, 9)", "adds(0, 1, 1) = 2", "adds(0, 10, 1) = 12", "adds(0, 0, 1) = 3",
            "adds(1, 1, 1) = 20", "adds(1, 10, 1) = 30", "adds(1, 0, 1) = 21", "adds(1, 99999, 1) = 100018");
        D.edge("5 STRANGER: MAKES 0 of 0", "clerk(5, 9)", "adds(0, 0, 0) = 0", "adds(0, 0, 1) = 1", "adds(0, 10, 1) = 11", "figure(0, 0, 0) = 0",
            "say nought 50;slips 0;costs 0; = 1", "force(1)", "adds(0, 0, 0) = 0");
    }

    // ---- promise 10, WRITING

    /** A clerk's figures of v, from the first written: "1 10". */
    private static void writes(String sentence, int kind, int base, int v, String figures) {
        NoZeroWithin x = new NoZeroWithin();
        String[] row = figures.isEmpty() ? new String[0] : figures.split(" ");
        D.rows(x, sentence, "clerk(" + kind + ", 0) = 0", "set(0, " + base + ")", "figure(0, " + v + ", 0) = " + row.length);
        for (int i = 1; i <= 40; i++) {
            D.rows(x, sentence, "figure(0, " + v + ", " + i + ") = " + (i <= row.length ? row[i - 1] : "-1"));
        }
    }

    private static void writing() {
        String just = "WRITING v with g FIGURES (1 .. g), each number just one way";
        writes(just, 0, 10, 1, "1");
        writes(just, 0, 10, 9, "9");
        writes(just, 0, 10, 10, "10");
        writes(just, 0, 10, 11, "1 1");
        writes(just, 0, 10, 20, "1 10");
        writes(just, 0, 10, 21, "2 1");
        writes(just, 0, 10, 100, "9 10");
        writes(just, 0, 10, 110, "10 10");
        writes(just, 0, 10, 111, "1 1 1");
        writes(just, 0, 10, 11110, "10 10 10 10");
        writes(just, 0, 10, 11111, "1 1 1 1 1");
        writes(just, 0, 10, 99999, "9 9 9 9 9");
        writes(just, 0, 2, 1, "1");
        writes(just, 0, 2, 2, "2");
        writes(just, 0, 2, 3, "1 1");
        writes(just, 0, 2, 6, "2 2");
        writes(just, 0, 2, 7, "1 1 1");
        // 100000 is 11000011010100000 by twos: without the first, each figure 1 more.
        writes(just, 0, 2, 99999, "2 1 1 1 1 2 2 1 2 1 2 1 1 1 1 1");
        writes(just, 0, 12, 12, "12");
        writes(just, 0, 12, 13, "1 1");
        writes(just, 0, 12, 156, "12 12");
        writes(just, 0, 12, 157, "1 1 1");
        writes("TURNED the last figure comes first.", 1, 10, 20, "10 1");
        writes("TURNED the last figure comes first.", 1, 10, 123, "3 2 1");
        writes("TURNED the last figure comes first.", 1, 2, 99999, "1 1 1 1 1 2 1 2 1 2 2 1 1 1 1 2");
        writes("0 none at all", 5, 10, 0, "");
        // By nine figures.
        writes(just, 5, 10, 9, "9");
        writes(just, 5, 10, 10, "1 1");
        NoZeroWithin x = new NoZeroWithin();
        D.rows(x, "0 none at all", "clerk(0, 0)", "clerk(1, 0)", "clerk(2, 0)", "say nought 0;slips 0;costs 0;", "force(1)", "figure(0, 0, 0) = 0",
            "figure(0, 0, 1) = -1", "figure(1, 0, 0) = 0", "figure(1, 0, 1) = -1", "figure(2, 0, 0) = 1", "figure(2, 0, 1) = 1",
            "plain(0, 0) = 0", "plain(1, 0) = 0", "reads(0, 0) = 0", "reads(101, 0) = 0", "reads(100, 0) = 0");
    }

    private static void figure() {
        String what = "how many figures (what 0), figure what, from the first written (1 .. 40; -1: there are fewer)";
        D.edge(what, "clerk(0, 0)", "figure(0, 345, 0) = 3", "figure(0, 345, 1) = 3", "figure(0, 345, 3) = 5", "figure(0, 345, 4) = -1",
            "figure(0, 345, 40) = -1", "figure(0, 345, 41) = -7", "figure(0, 345, -1) = -7", "figure(0, 345, most) = -7", "figure(0, 345, least) = -7");
        D.edge("Of what he writes of v (0 .. 99999)", "clerk(0, 0)", "figure(0, 0, 0) = 1", "figure(0, -1, 0) = -7", "figure(0, 99999, 0) = 5",
            "figure(0, 100000, 0) = -7", "figure(0, most, 0) = -7", "figure(0, least, 0) = -7");
        D.edge("-5: no such CLERK; -7: v, what.", "figure(0, 0, 0) = -5", "clerk(0, 0)", "figure(1, 0, 0) = -5", "figure(-1, 0, 0) = -5",
            "figure(1, -1, 0) = -5", "figure(1, 0, 41) = -5", "figure(0, -1, 41) = -7");
    }

    // ---- promises 11 and 12, READING

    private static long by(int g, String figures) {
        long value = 0;
        for (String figure : figures.split(" ")) {
            value = value * g + Integer.parseInt(figure);
        }
        return value;
    }

    private static void reading() {
        NoZeroWithin x = new NoZeroWithin();
        D.rows(x, "0 at first, figure by figure, the greatest first (of who reads TURNED the last one written)", "clerk(0, 0)", "clerk(1, 0)",
            "clerk(3, 9)", "clerk(5, 0)", "set(0, 5)");
        String sixteen = "2 1 1 1 1 2 2 1 2 1 2 1 1 1 1 1";
        String turned = "1 1 1 1 1 2 1 2 1 2 2 1 1 1 1 2";
        // A SHORT of BASE 5 writes by two figures, turned; the others read by five, a STRANGER by four.
        D.due("a TURNED ONE reads what passes an int", x.reads(102, 99999), by(5, sixteen));
        D.due("a CLERK reads it the other way", x.reads(2, 99999), by(5, turned));
        D.due("so does plain()", x.plain(2, 99999), by(5, turned));
        D.due("a STRANGER by four", x.reads(302, 99999), by(4, turned));
        D.due("he himself", x.reads(202, 99999), 99999);
        D.rows(x, "times g, and the figure: figures greater than g", "set(0, 10)", "reads(200, 20) = 71", "reads(200, 10) = 10", "reads(300, 100) = 91",
            "reads(203, 9) = 9");
    }

    private static void reads() {
        String pair = "readerWriter: 100 times who reads, and who writes.";
        D.edge(pair, "clerk(0, 0)", "clerk(1, 0)", "clerk(0, 0)", "clerk(0, 0)", "clerk(1, 0)", "reads(0, 12) = 12", "reads(1, 12) = 21",
            "reads(100, 12) = 21", "reads(101, 12) = 12", "reads(404, 12) = 12", "reads(403, 12) = 21", "reads(304, 12) = 21", "reads(400, 12) = 21");
        D.edge("-5: no such CLERK; -7: v.", "reads(0, 0) = -5", "clerk(0, 0)", "reads(1, 0) = -5", "reads(100, 0) = -5", "reads(-1, 0) = -5",
            "reads(-100, 0) = -5", "reads(99, 0) = -5", "reads(10000, 0) = -5", "reads(most, 0) = -5", "reads(least, 0) = -5", "reads(1, -1) = -5",
            "reads(0, -1) = -7", "reads(0, 100000) = -7", "reads(0, 99999) = 99999", "reads(0, 0) = 1", "reads(0, most) = -7", "reads(0, least) = -7");
        D.edge("-5: no such CLERK: of five", "clerk(0, 0)", "clerk(0, 0)", "clerk(0, 0)", "clerk(0, 0)", "clerk(0, 0)", "reads(405, 0) = -5",
            "reads(504, 0) = -5", "reads(5, 0) = -5", "reads(500, 0) = -5", "reads(404, 5) = 5");
    }

    private static void plain() {
        D.edge("What one reads of it with BASE FIGURES, not TURNED.", "clerk(1, 0)", "clerk(3, 9)", "clerk(5, 0)", "clerk(4, 9)", "plain(0, 12) = 21",
            "plain(1, 12) = 51", "plain(2, 12) = 13", "plain(3, 12) = 21", "plain(3, 10) = 20", "plain(2, 0) = 0", "set(0, 2)", "plain(0, 4) = 5",
            "plain(2, 4) = 4", "set(0, 12)", "plain(0, 25) = 14");
        D.edge("-5: no such CLERK; -7: v.", "plain(0, 1) = -5", "clerk(0, 0)", "plain(1, 1) = -5", "plain(-1, 1) = -5", "plain(1, -1) = -5",
            "plain(0, -1) = -7", "plain(0, 0) = 1", "plain(0, 99999) = 99999", "plain(0, 100000) = -7", "plain(0, most) = -7", "plain(0, least) = -7");
    }

    // ---- promise 13

    private static void adds() {
        D.edge("What he MAKES of a and of b (0 .. 99999 each), together.", "clerk(0, 0)", "adds(0, 0, 0) = 2", "adds(0, 99999, 99999) = 199998",
            "adds(0, 0, 99999) = 100000", "adds(0, 99999, 0) = 100000", "adds(0, -1, 0) = -7", "adds(0, 0, -1) = -7", "adds(0, 100000, 0) = -7",
            "adds(0, 0, 100000) = -7", "adds(0, most, most) = -7", "adds(0, least, least) = -7");
        D.edge("-5: no such CLERK; -7: a, b.", "adds(0, 1, 1) = -5", "clerk(0, 0)", "adds(1, 1, 1) = -5", "adds(-1, 1, 1) = -5", "adds(1, -1, -1) = -5");
        D.edge("together, as great as they go", "clerk(4, 9)", "say nought 9999*11;slips 0;costs 0; = 1", "force(1)", "adds(0, 0, 0) = 200018",
            "adds(0, 99999, 0) = 200017");
    }
}
