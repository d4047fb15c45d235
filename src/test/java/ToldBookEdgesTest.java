/** The edges of told books, each under the document's own words: promises 30 to 34. */
public final class ToldBookEdgesTest {
    private static final Due D = new Due();
    private static final String TWENTY = " 5 5".repeat(20);

    public static void main(String[] args) {
        judge();
        refusals();
        kinds();
        bases();
        whose();
        laws();
        film();
        filmed();
        filmAtMost();
        D.end();
    }

    // ---- promise 30

    private static void judge() {
        String first = "the first row (from 0) that is otherwise of a CLERK; -1: none";
        D.edge(first, "clerk(0, 0)", "fill 0 2: 5 5", "judge(0, 0) = -1", "fill 0 2: 5 6", "judge(0, 0) = 0", "fill 0 2: 5 5 6 6 7 8 8 9", "judge(0, 0) = 2",
            "fill 0 2: 0 1 99999 99999", "judge(0, 0) = -1");
        D.edge(first + ": an empty one", "clerk(0, 0)", "sheet(0, 0, 0)", "judge(0, 0) = -1");
        D.edge(first + ": 40 numbers", "clerk(0, 0)", "fill 0 2:" + TWENTY, "judge(0, 0) = -1", "cell(0, 39, 6)", "judge(0, 0) = 19", "cell(0, 38, 6)",
            "judge(0, 0) = -1", "cell(0, 0, 6)", "judge(0, 0) = 0");
        D.edge("plain() of it: any number may stand there", "clerk(0, 0)", "fill 0 2: 5 5 5 -1", "judge(0, 0) = 1", "cell(0, 3, most)", "judge(0, 0) = 1",
            "cell(0, 3, least)", "judge(0, 0) = 1", "cell(0, 3, 100000)", "judge(0, 0) = 1", "clerk(4, 9)", "fill 1 2: 99999 100008", "judge(1, 1) = -1");
        D.edge("bytes and shorts, too", "clerk(0, 0)", "fill 0 0: 127 127", "judge(0, 0) = -1", "fill 1 1: 32767 32767", "judge(1, 0) = -1", "cell(0, 0, 128)",
            "judge(0, 0) = -2", "cell(1, 0, 32768)", "judge(1, 0) = -2");
    }

    /** judge(), kinds(), laws() refuse likewise; whose() has no CLERK to be wrong. */
    private static void refusals() {
        for (String call : new String[] {"judge(S, C)", "kinds(S, C, 3)", "laws(S, C)", "whose(S)"}) {
            String one = call.replace("C", "0");
            String none = call.replace("C", "1");
            String told = "BAD: SHEET; -11; BAD: its size isn't by twos, v; -5: no such CLERK: " + call;
            D.edge(told, "clerk(0, 0)", none.replace("S", "-1") + " = -2", none.replace("S", "4") + " = -2", none.replace("S", "most") + " = -2",
                none.replace("S", "least") + " = -2", none.replace("S", "0") + " = -11", none.replace("S", "3") + " = -11");
            for (String wrong : new String[] {"5", "5 5 5", "-1 5", "100000 5", "5 6 -1 5", "5 6 100000 5", "most 5", "least 5", "5" + TWENTY.substring(4)}) {
                D.edge(told, "clerk(0, 0)", "fill 0 2: " + wrong, one.replace("S", "0") + " = -2", none.replace("S", "0") + " = -2");
            }
        }
        for (String call : new String[] {"judge(0, C)", "kinds(0, C, 9)", "laws(0, C)"}) {
            D.edge("-5: no such CLERK: " + call, "sheet(0, 2, 0)", call.replace("C", "0") + " = -5", "clerk(0, 0)", call.replace("C", "1") + " = -5",
                call.replace("C", "-1") + " = -5", call.replace("C", "5") + " = -5", call.replace("C", "most") + " = -5");
        }
        D.edge("-7: sort.", "sheet(0, 2, 0)", "clerk(0, 0)", "kinds(0, 0, -1) = -7", "kinds(0, 0, 3) = -7", "kinds(0, 0, most) = -7", "kinds(0, 0, least) = -7");
    }

    // ---- promise 31

    private static void kinds() {
        String kinds = "KINDS (sort 0; bits 0 .. 5), MORE (1; bits 0 .. 9) by which, were they his";
        D.edge(kinds + ": an empty sheet", "clerk(3, 4)", "sheet(0, 2, 0)", "kinds(0, 0, 0) = 63", "kinds(0, 0, 1) = 1023", "kinds(0, 0, 2) = 8188");
        D.edge(kinds + ": none at all", "clerk(3, 4)", "fill 0 2: 5 -1", "kinds(0, 0, 0) = 0", "kinds(0, 0, 1) = 0", "kinds(0, 0, 2) = 0");
        // 0 is 0 to a STRANGER, 1 to who writes the nought as it is, 2 to a KINDLY, 2 and MORE to a GENEROUS.
        D.edge(kinds + ": the last KIND", "clerk(0, 0)", "fill 0 2: 0 0", "kinds(0, 0, 0) = 32");
        D.edge(kinds + ": the first KIND of all", "clerk(5, 0)", "fill 0 2: 12 12 10 10", "kinds(0, 0, 0) = 1");
        D.edge(kinds + ": of his own MORE", "clerk(0, 9)", "fill 0 2: 0 11", "kinds(0, 0, 0) = 16", "fill 0 2: 0 2", "kinds(0, 0, 0) = 4");
        D.edge(kinds + ": MORE 0", "clerk(4, 9)", "fill 0 2: 1 1", "kinds(0, 0, 1) = 1");
        D.edge(kinds + ": MORE 9", "clerk(4, 0)", "fill 0 2: 1 10", "kinds(0, 0, 1) = 512");
        // By seven figures 8 is 1 1: a SHORT of MORE 9 alone; 9 by eight figures 1 1: of MORE 6 .. 8.
        D.edge(kinds + ": cut by 3", "clerk(3, 0)", "fill 0 2: 8 11", "kinds(0, 0, 1) = 512", "fill 0 2: 9 11", "kinds(0, 0, 1) = 448", "fill 0 2: 10 11",
            "kinds(0, 0, 1) = 56", "fill 0 2: 11 11", "kinds(0, 0, 1) = 7");
        D.edge("they are asked only", "clerk(3, 4)", "sheet(0, 2, 0)", "kinds(0, 0, 0)", "kinds(0, 0, 1)", "kinds(0, 0, 2)", "told(0, 0) = 3", "told(0, 1) = 4",
            "count(1) = 10", "plain(0, 11) = 21");
    }

    private static void bases() {
        String bases = "BASES (2; bits 2 .. 12) by which, were it so, that would be -1";
        // TURNED 4 is 2 1 by two, 25 is 1 2 by twelve; 12 is the same both ways by 2 (2 1 2), 3 (3 3), 5 (2 2), 11 (1 1) and 12.
        D.edge(bases, "clerk(1, 0)", "fill 0 2: 4 5", "kinds(0, 0, 2) = 4", "fill 0 2: 25 14", "kinds(0, 0, 2) = 4096", "fill 0 2: 12 12", "kinds(0, 0, 2) = 6188");
        D.edge(bases + ": the text by it, too", "clerk(0, 0)", "say nought base;slips 0;costs 0; = 1", "force(1)", "fill 0 2: 0 2", "kinds(0, 0, 2) = 4",
            "fill 0 2: 0 12", "kinds(0, 0, 2) = 4096", "fill 0 2: 0 13", "kinds(0, 0, 2) = 0", "fill 0 2: 0 1", "kinds(0, 0, 2) = 0");
        D.edge(bases + ": 2 FIGURES at least", "clerk(5, 0)", "fill 0 2: 3 3", "kinds(0, 0, 2) = 8180", "fill 0 2: 3 4", "kinds(0, 0, 2) = 8");
    }

    // ---- promises 32 and 33

    private static void whose() {
        D.edge("CLERKS (bits) of whom that would be -1.", "sheet(0, 2, 0)", "whose(0) = 0", "clerk(0, 0)", "whose(0) = 1", "clerk(0, 0)", "clerk(0, 0)",
            "clerk(0, 0)", "clerk(0, 0)", "whose(0) = 31", "fill 0 2: 5 6", "whose(0) = 0", "fill 0 2: 5 5", "whose(0) = 31");
        D.edge("CLERKS (bits) of whom that would be -1.", "clerk(0, 0)", "clerk(1, 0)", "clerk(2, 0)", "clerk(4, 1)", "clerk(5, 0)", "fill 0 2: 0 0", "whose(0) = 16",
            "fill 0 2: 0 1", "whose(0) = 3", "fill 0 2: 0 1 12 12", "whose(0) = 1", "fill 0 2: 0 3", "whose(0) = 8", "fill 0 2: 0 4", "whose(0) = 0");
    }

    private static void laws() {
        NoZeroWithin x = new NoZeroWithin();
        String laws = "TEXTS (bits), were they THE LAW, by which that would be -1.";
        D.rows(x, laws, "clerk(0, 0)", "sheet(0, 2, 0)", "fill 1 2: 0 1", "laws(0, 0) = 1", "laws(1, 0) = 1");
        for (int t = 1; t <= 5; t++) {
            D.rows(x, laws, "say nought " + (t == 5 ? 1 : t + 1) + ";slips 0;costs 0; = " + t);
        }
        D.rows(x, laws, "laws(0, 0) = 63", "laws(1, 0) = 33", "fill 1 2: 0 5", "laws(1, 0) = 16", "fill 1 2: 0 6", "laws(1, 0) = 0", "fill 1 2: 0 2", "laws(1, 0) = 2",
            "count(4) = 0", "force(3)", "laws(1, 0) = 2", "count(4) = 3");
    }

    // ---- promise 34

    private static void film() {
        D.edge("stepsMany: 100 times a step (0 .. 99), and n (0 .. 20).", "clerk(0, 0)", "film(0, 0, 5, 0) = 0", "film(0, 0, 5, 20) = 20", "film(0, 0, 5, 21) = -7",
            "film(0, 0, 5, 99) = -7", "film(0, 0, 5, 100) = 0", "film(0, 0, 5, 9900) = 0", "film(0, 0, 5, 9920) = 20", "film(0, 0, 5, 9921) = -7",
            "film(0, 0, 5, 9999) = -7", "film(0, 0, 5, 10000) = -7", "film(0, 0, 5, 10001) = -7", "film(0, 0, 5, -1) = -7", "film(0, 0, 5, -100) = -7",
            "film(0, 0, 5, -80) = -7", "film(0, 0, 5, most) = -7", "film(0, 0, 5, least) = -7");
        D.edge("rows of n numbers from one (0 .. 999) on", "clerk(0, 0)", "film(0, 0, 0, 1) = 1", "film(0, 0, -1, 1) = -7", "film(0, 0, 999, 1) = 1",
            "film(0, 0, 1000, 1) = -7", "film(0, 0, most, 1) = -7", "film(0, 0, least, 1) = -7");
        D.edge("BAD: SHEET; -5: no such CLERK; -7: from, stepsMany.", "film(0, 0, 0, 1) = -5", "film(4, 0, -1, -1) = -2", "film(-1, 0, 0, 1) = -2", "clerk(0, 0)",
            "film(4, 0, 0, 1) = -2", "film(0, 1, 0, 1) = -5", "film(0, -1, 0, 1) = -5", "film(0, 1, 1000, 21) = -5", "film(0, 0, 1000, 21) = -7", "cell(0, 0, 0) = -11",
            "film(3, 0, 0, 1) = 1", "cell(3, 1, 0) = 1");
    }

    private static void filmed() {
        String becomes = "A SHEET truly becomes rows of n numbers from one on, each a step more, and plain() of these";
        D.edge(becomes + ": none", "clerk(0, 0)", "fill 0 0: 1 2 3", "film(0, 0, 7, 500) = 0", "cell(0, 0, 0) = -12", "clerksBy(0, 2, 0, 0) = 0", "judge(0, 0) = -1");
        D.edge(becomes + ": one that was missing", "clerk(0, 0)", "film(2, 0, 7, 502) = 2", "cell(2, 4, 0) = -12", "book(2, 0, 1) = 38");
        D.edge(becomes + ": ints, whatever they were", "clerk(0, 0)", "sheet(1, 2, 0)", "sheet(0, 0, 3)", "copy(0, 0, 1, 0, 0) = -13", "film(0, 0, 300, 1) = 1",
            "copy(0, 0, 1, 0, 0) = 0", "book(0, 0, 1) = 600");
        // 8, 15, 22 and 8, 51, 22: in rows of two.
        D.edge(becomes, "clerk(1, 0)", "film(0, 0, 8, 703) = 3", "cell(0, 6, 0) = -12", "sheet(1, 2, 1)", "copy(0, 0, 1, 0, 1)", "book(1, 0, 1) = 8", "copy(0, 1, 1, 0, 1)",
            "book(1, 0, 1) = 8", "copy(0, 2, 1, 0, 1)", "book(1, 0, 1) = 15", "copy(0, 3, 1, 0, 1)", "book(1, 0, 1) = 51", "copy(0, 4, 1, 0, 1)", "book(1, 0, 1) = 22",
            "copy(0, 5, 1, 0, 1)", "book(1, 0, 1) = 22", "judge(0, 0) = -1");
        D.edge(becomes + ": of as many as there can be", "clerk(0, 0)", "film(0, 0, 999, 9920) = 20", "cell(0, 40, 0) = -12", "book(0, 0, 1) = 77580", "judge(0, 0) = -1",
            "cell(0, 39, 0) = 1", "judge(0, 0) = 19");
        D.edge(becomes + ": a step of 0", "clerk(0, 0)", "film(0, 0, 7, 3) = 3", "book(0, 0, 1) = 42");
    }

    /** By BASE 5 a SHORT of MORE 9 writes 99999 by two figures; read by five that passes 2147483647. */
    private static void filmAtMost() {
        String most = "plain() of these (2147483647 at most; ints)";
        D.edge(most, "clerk(3, 9)", "set(0, 5)", "say nought 9999*10+9;slips 0;costs 0; = 1", "force(1)", "film(0, 0, 0, 1) = 1", "judge(0, 0) = 0", "fill 1 2: 0 most",
            "judge(1, 0) = 0", "cell(0, 0, 1) = 1", "book(0, 0, 1) = -2", "cell(0, 1, 1) = 1", "judge(0, 0) = -1");
        D.edge(most + ": less is told as it is", "clerk(3, 9)", "set(0, 5)", "say nought 9999;slips 0;costs 0; = 1", "force(1)", "film(0, 0, 0, 1) = 1", "judge(0, 0) = -1");
    }
}
