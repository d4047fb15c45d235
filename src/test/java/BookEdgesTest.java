/** The edges of sums and books, each under the document's own words: promises 14 to 20. */
public final class BookEdgesTest {
    private static final Due D = new Due();
    private static final String LAW = "say nought ";
    private static final String FORTY = " 99999".repeat(40);

    public static void main(String[] args) {
        apart();
        book();
        costs();
        who();
        smuggled();
        slip();
        oneSlip();
        sure();
        shortest();
        refusals();
        D.end();
    }

    // ---- promise 14

    private static void apart() {
        String first = "The first v (0 .. 999) such that adds() of it and of more (0 .. 999) above it is not v and that, together";
        D.edge(first, "clerk(0, 0)", "apart(0, 0, 0) = 0", "apart(0, 0, 1) = 2", "apart(0, 1, 0) = 0", "apart(0, 1, 1) = 1", "apart(0, 999, 0) = 0",
            "apart(0, 999, 1) = 1", "apart(0, -1, 0) = -7", "apart(0, 1000, 0) = -7", "apart(0, most, 0) = -7", "apart(0, least, 0) = -7");
        D.edge("(what 0; -1: there is none), how far these are apart (1; 0: there is none)", "clerk(5, 9)", "clerk(0, 0)", "apart(0, 0, 0) = -1",
            "apart(0, 0, 1) = 0", "apart(0, 999, 0) = -1", "apart(0, 999, 1) = 0", LAW + "0;slips 0;costs 0; = 1", "apart(1, 7, 0) = 0", "force(1)",
            "apart(1, 7, 0) = -1", "apart(1, 7, 1) = 0");
        D.edge(first + ": both are more", "clerk(2, 0)", "clerk(4, 9)", "apart(0, 10, 1) = 3", "apart(0, 990, 1) = 3", "apart(0, 991, 1) = 2",
            "apart(1, 10, 1) = 21", "apart(1, 0, 1) = 22");
        D.edge("-5: no such CLERK; -7: more, what.", "apart(0, 0, 0) = -5", "clerk(0, 0)", "apart(-1, 0, 0) = -5", "apart(1, -1, 9) = -5",
            "apart(0, 0, -1) = -7", "apart(0, 0, 2) = -7", "apart(0, 0, most) = -7");
    }

    // ---- promise 15

    private static void book() {
        String told = "A SHEET tells a book of numbers (0 .. 99999 each)";
        D.edge(told, "clerk(2, 0)", "fill 0 2: 0 99999", "book(0, 0, 0) = 100001", "book(0, 0, 1) = 99999", "book(0, 0, 2) = 2", "book(0, 0, 3) = 2",
            "fill 0 2: 0 100000", "book(0, 0, 0) = -2", "fill 0 2: -1 0", "book(0, 0, 0) = -2", "fill 0 2: most", "book(0, 0, 0) = -2",
            "fill 0 2: least", "book(0, 0, 0) = -2");
        D.edge("an empty book", "clerk(0, 0)", "sheet(0, 0, 0)", "book(0, 0, 0) = 0", "book(0, 0, 1) = 0", "book(0, 0, 2) = 0", "book(0, 0, 3) = 0");
        D.edge("a book of 40", "clerk(4, 9)", "fill 3 2:" + FORTY, "book(3, 0, 0) = 4000320", "book(3, 0, 1) = 3999960", "book(3, 0, 2) = 360",
            "book(3, 0, 3) = 360", "cell(3, 39, 100000)", "book(3, 0, 0) = -2", "cell(3, 39, 0)", "book(3, 0, 1) = 3899961", "cell(3, 0, -1)",
            "book(3, 0, 1) = -2");
        D.edge("bytes and shorts, too", "clerk(0, 0)", "fill 0 0: 127 1", "book(0, 0, 1) = 128", "cell(0, 0, 128)", "book(0, 0, 1) = -2", "fill 1 1: 32767 1",
            "book(1, 0, 1) = 32768", "cell(1, 0, 32768)", "book(1, 0, 1) = -2");
        D.edge("how far these are apart (2): he makes less of it, too", "clerk(5, 0)", "fill 0 2: 0 0 7", "book(0, 0, 2) = 0", "book(0, 0, 0) = 7");
        D.edge("HE MAKES of a book: of each by itself, together.", "clerk(2, 0)", "fill 0 2: 5 5", "book(0, 0, 0) = 10", "fill 0 2: 10", "book(0, 0, 0) = 11",
            "fill 0 2: 0 0 0", "book(0, 0, 0) = 6");
        D.edge("-7: what.", "clerk(0, 0)", "fill 0 2: 5", "book(0, 0, -1) = -7", "book(0, 0, 4) = -7", "book(0, 0, 3) = 0", "book(0, 0, most) = -7");
    }

    private static void costs() {
        String most = "what costs says of that (3; v: OURS, off: that, 99999 at most each)";
        D.edge(most + ": v", "clerk(5, 0)", "say nought 1;slips 0;costs v; = 1", "force(1)", "fill 0 2: 99998", "book(0, 0, 3) = 99998", "fill 0 2: 99998 1",
            "book(0, 0, 3) = 99999", "fill 0 2: 0", "book(0, 0, 3) = 0");
        // 9999*10+9 is 99999.
        D.edge(most + ": v is not more", "clerk(5, 0)", "say nought 1;slips 0;costs v=9999*10+9; = 1", "force(1)", "fill 0 2: 99998", "book(0, 0, 3) = 0",
            "fill 0 2: 99999", "book(0, 0, 3) = 1", "fill 0 2: 99999 1", "book(0, 0, 3) = 1", "fill 0 2:" + FORTY, "book(0, 0, 3) = 1");
        D.edge(most + ": off", "clerk(0, 0)", "say nought 9999*5+4;slips 0;costs off; = 1", "force(1)", "fill 0 2: 0 0", "book(0, 0, 2) = 99998",
            "book(0, 0, 3) = 99998");
        D.edge(most + ": off is not more", "clerk(0, 0)", "say nought 9999*5+5;slips 0;costs off=9999*10+9; = 1", "force(1)", "fill 0 2: 0", "book(0, 0, 2) = 50000",
            "book(0, 0, 3) = 0", "fill 0 2: 0 0", "book(0, 0, 2) = 100000", "book(0, 0, 3) = 1");
        D.edge(most + ": both", "clerk(0, 0)", "say nought 5;slips 0;costs v*100+off; = 1", "force(1)", "fill 0 2: 30 0 0", "book(0, 0, 3) = 3010");
        D.edge("costs 0 .. 99999, else the bound", "clerk(0, 0)", "say nought 5;slips 0;costs -off; = 1", "say nought 5;slips 0;costs off*9999*9; = 2",
            "fill 0 2: 0", "force(1)", "book(0, 0, 3) = 0", "force(2)", "book(0, 0, 3) = 99999");
    }

    // ---- promises 16 and 17

    private static void who() {
        String who = "The CLERK by whom a book is least apart from OURS, of like ones the first (what 0), how far (1)";
        D.edge("-1: there are none.", "sheet(0, 2, 0)", "who(0, 0) = -1", "who(0, 1) = -1", "fill 0 2: 0 10", "who(0, 0) = -1", "who(0, 1) = -1",
            "who(0, 2) = -7", "who(0, -1) = -7", "who(1, 0) = -11", "who(4, 0) = -2", "fill 0 2: -1", "who(0, 0) = -2");
        D.edge(who, "fill 0 2: 0 10", "clerk(2, 0)", "who(0, 0) = 0", "who(0, 1) = 3", "clerk(0, 0)", "who(0, 0) = 1", "who(0, 1) = 1", "clerk(1, 0)",
            "who(0, 0) = 1", "clerk(0, 0)", "who(0, 0) = 1", "clerk(5, 0)", "who(0, 0) = 4", "who(0, 1) = 0");
        D.edge(who + ": an empty book", "clerk(4, 9)", "clerk(5, 0)", "sheet(0, 2, 0)", "who(0, 0) = 0", "who(0, 1) = 0");
        D.edge(who + ": by their number", "say nought (clerk-3)*(clerk-3);slips 0;costs 0; = 1", "force(1)", "clerk(0, 0)", "clerk(0, 0)", "clerk(0, 0)", "clerk(0, 0)",
            "clerk(0, 0)", "fill 0 2: 0 7 0", "who(0, 0) = 3", "who(0, 1) = 0");
        D.edge("-7: what.", "clerk(0, 0)", "fill 0 2: 5", "who(0, 2) = -7", "who(0, -1) = -7", "who(0, most) = -7", "who(0, least) = -7");
    }

    private static void smuggled() {
        String place = "The place of a book (from 0) by which, were the number there 0, what HE MAKES of it would be least apart from OURS as it is";
        D.edge("-1: it is empty.", "clerk(0, 0)", "sheet(0, 1, 0)", "smuggled(0, 0, 0) = -1", "smuggled(0, 0, 1) = -1", "smuggled(0, 0, 2) = -7",
            "smuggled(0, 1, 0) = -5", "smuggled(1, 0, 0) = -11", "smuggled(4, 0, 0) = -2");
        // The nought is 1: it makes 1 of 0 and so it is 1 apart, and 39 of them are 39 apart.
        D.edge(place, "clerk(0, 0)", "sheet(0, 2, 40)", "cell(0, 39, 40)", "book(0, 0, 2) = 39", "smuggled(0, 0, 0) = 39", "smuggled(0, 0, 1) = 0",
            "cell(0, 39, 0)", "cell(0, 0, 40)", "smuggled(0, 0, 0) = 0", "smuggled(0, 0, 1) = 0");
        D.edge(place + ", of like ones the first", "clerk(0, 0)", "fill 0 2: 9 4 4 9", "smuggled(0, 0, 0) = 1", "smuggled(0, 0, 1) = 3", "fill 0 2: 0 0",
            "smuggled(0, 0, 0) = 0", "smuggled(0, 0, 1) = 2", "fill 0 2: 3", "smuggled(0, 0, 0) = 0", "smuggled(0, 0, 1) = 2");
        // 18 of 20 and 22 of 20 are as far.
        D.edge(place + ", on either side", "clerk(0, 0)", "say nought 5;slips 0;costs 0; = 1", "force(1)", "fill 0 2: 10 7 3", "smuggled(0, 0, 0) = 1",
            "smuggled(0, 0, 1) = 2");
        D.edge("-7: what.", "clerk(0, 0)", "fill 0 2: 5", "smuggled(0, 0, 2) = -7", "smuggled(0, 0, -1) = -7", "smuggled(0, 0, most) = -7");
    }

    // ---- promises 18 and 19

    private static void slip() {
        String figure = "The figure (from 0, the first written) of his writing of v (0 .. 99999) by whose SLIP what he himself reads of it changes most";
        D.edge(figure, "clerk(0, 0)", "clerk(1, 0)", "slip(0, 99999, 0) = 0", "slip(0, 99999, 1) = 10000", "slip(1, 99999, 0) = 4", "slip(1, 99999, 1) = 10000",
            "slip(0, 5, 0) = 0", "slip(0, 5, 1) = 1", "slip(0, 0, 0) = 0", "slip(0, 0, 1) = 1", "slip(0, 100000, 0) = -7", "slip(0, -1, 0) = -7");
        D.edge("(what 0; -1: nothing is written), by how much (1; 0)", "clerk(5, 0)", "slip(0, 0, 0) = -1", "slip(0, 0, 1) = 0", "slip(0, 1, 0) = 0",
            "slip(0, 1, 1) = 1", "clerk(0, 0)", "say nought 0;slips 0;costs 0; = 1", "force(1)", "slip(1, 0, 0) = -1", "slip(1, 0, 1) = 0");
        D.edge(figure + ": by the most figures", "clerk(0, 0)", "clerk(1, 0)", "set(0, 2)", "slip(0, 99999, 0) = 0", "slip(0, 99999, 1) = 32768",
            "slip(1, 99999, 0) = 15", "slip(1, 99999, 1) = 32768", "set(0, 12)", "slip(0, 99999, 1) = 20736");
        D.edge("-5: no such CLERK; -7: v, what.", "slip(0, 0, 0) = -5", "clerk(0, 0)", "slip(1, 0, 0) = -5", "slip(-1, -1, 9) = -5", "slip(0, 0, -1) = -7",
            "slip(0, 0, 2) = -7", "slip(0, most, 0) = -7", "slip(0, least, 0) = -7");
    }

    /** slips 100: each figure slips, whatever its LOT. */
    private static void slipped(int kind, int more, int base, int v, int want) {
        D.edge("A SLIP of a figure: it is 1 more, or, if it is as great as his FIGURES go, 1 less.", "clerk(" + kind + ", " + more + ")",
            "say nought 1;slips 100;costs 0; = 1", "force(1)", "set(0, " + base + ")", "drawn(0, 0, " + v + ") = " + want);
    }

    private static void oneSlip() {
        slipped(0, 0, 10, 1, 2);
        slipped(0, 0, 10, 9, 10);
        slipped(0, 0, 10, 10, 9);
        slipped(0, 0, 10, 110, 99);
        slipped(0, 0, 10, 99, 110);
        slipped(0, 0, 2, 1, 2);
        slipped(0, 0, 2, 2, 1);
        slipped(0, 0, 12, 11, 12);
        slipped(0, 0, 12, 12, 11);
        slipped(3, 9, 10, 6, 7);
        slipped(3, 9, 10, 7, 6);
        slipped(5, 0, 10, 8, 9);
        slipped(5, 0, 10, 9, 8);
        slipped(5, 0, 3, 2, 1);
    }

    private static void sure() {
        String sure = "1000000000, of each figure of his writing of v times (100 less slips, of v) by 100 (cut).";
        D.edge(sure, "clerk(0, 0)", "sure(0, 0) = 970000000", "sure(0, 99999) = 858734025", "sure(0, -1) = -7", "sure(0, 100000) = -7", "sure(0, most) = -7",
            "sure(0, least) = -7");
        D.edge(sure + " slips 0, 1, 99, 100", "clerk(0, 0)", "clerk(5, 0)", "say nought 1;slips v;costs 0; = 1", "force(1)", "sure(0, 0) = 1000000000",
            "sure(0, 1) = 990000000", "sure(0, 99) = 100000", "sure(0, 100) = 0", "sure(0, 99999) = 0", "sure(1, 0) = 1000000000");
        D.edge(sure + " nothing written", "clerk(5, 0)", "say nought 1;slips 100;costs 0; = 1", "force(1)", "sure(0, 0) = 1000000000", "sure(0, 1) = 0");
        // 990000000, 980100000, 970299000, 960596010, 950990049.9
        D.edge(sure + " cut", "clerk(0, 0)", "say nought 1;slips 1;costs 0; = 1", "force(1)", "sure(0, 1111) = 960596010", "sure(0, 11111) = 950990049",
            "say nought 1;slips 99;costs 0; = 2", "force(2)", "sure(0, 1111) = 10", "sure(0, 11111) = 0");
        D.edge("-5: no such CLERK; -7: v.", "sure(0, 0) = -5", "clerk(0, 0)", "sure(1, 0) = -5", "sure(-1, -1) = -5");
    }

    // ---- promise 20

    private static void shortest() {
        String base = "BASE (2 .. 12) by which, were it so, his writings of all numbers of a book would have fewest figures, together, of like ones the least";
        D.edge(base, "clerk(0, 0)", "fill 0 2: 1", "shortest(0, 0, 0) = 2", "shortest(0, 0, 1) = 1", "fill 0 2: 2", "shortest(0, 0, 0) = 2", "fill 0 2: 3",
            "shortest(0, 0, 0) = 3", "fill 0 2: 11", "shortest(0, 0, 0) = 11", "fill 0 2: 12", "shortest(0, 0, 0) = 12", "shortest(0, 0, 1) = 1",
            "fill 0 2: 13", "shortest(0, 0, 0) = 4", "shortest(0, 0, 1) = 2", "fill 0 2: 156", "shortest(0, 0, 0) = 12", "shortest(0, 0, 1) = 2",
            "fill 0 2: 157", "shortest(0, 0, 0) = 6", "shortest(0, 0, 1) = 3", "fill 0 2: 12 12 2", "shortest(0, 0, 0) = 12", "shortest(0, 0, 1) = 3");
        D.edge(base + ": a book that is empty", "clerk(0, 0)", "sheet(0, 2, 0)", "shortest(0, 0, 0) = 2", "shortest(0, 0, 1) = 0");
        D.edge(base + ": nothing written", "clerk(5, 0)", "fill 0 2: 0 0", "shortest(0, 0, 0) = 2", "shortest(0, 0, 1) = 0");
        // Five figures go up to 66429 by nine, up to 111110 by ten; four up to 22620 by twelve.
        D.edge(base + ": a book of 40", "clerk(0, 0)", "fill 0 2:" + FORTY, "shortest(0, 0, 0) = 10", "shortest(0, 0, 1) = 200");
        D.edge(base + ": 2 FIGURES at least, so that like ones are", "clerk(5, 0)", "clerk(3, 9)", "fill 0 2: 2", "shortest(0, 0, 0) = 2", "shortest(0, 1, 0) = 2",
            "fill 0 2: 3", "shortest(0, 0, 0) = 4", "shortest(0, 1, 0) = 6", "fill 0 2: 11", "shortest(0, 0, 0) = 12", "shortest(0, 0, 1) = 1",
            "fill 0 2: 12", "shortest(0, 0, 0) = 4", "shortest(0, 0, 1) = 2");
        D.edge("-7: what.", "clerk(0, 0)", "fill 0 2: 5", "shortest(0, 0, 2) = -7", "shortest(0, 0, -1) = -7", "shortest(0, 0, most) = -7", "count(1) = 10");
    }

    // ---- BAD: SHEET; -11; BAD: a number; -5: no such CLERK; -7: what.

    private static void refusals() {
        for (String call : new String[] {"book", "smuggled", "shortest"}) {
            String last = call.equals("book") ? "4" : "2";
            D.edge("BAD: SHEET; -11; BAD: a number; -5: no such CLERK; -7: what. " + call, "fill 3 2: 5 100000", "fill 2 2: 5", call + "(-1, -1, -1) = -2",
                call + "(4, 0, " + last + ") = -2", call + "(most, 0, 0) = -2", call + "(least, 0, 0) = -2", call + "(0, 0, " + last + ") = -11",
                call + "(3, 0, " + last + ") = -2", call + "(2, 0, " + last + ") = -5", call + "(2, -1, 0) = -5", "clerk(0, 0)", call + "(2, 1, 0) = -5",
                call + "(2, 0, " + last + ") = -7", call + "(2, 0, -1) = -7");
        }
        D.edge("BAD, -11, BAD as of book(); -7: what. who", "fill 3 2: 5 100000", "fill 2 2: 5", "who(-1, 9) = -2", "who(4, 9) = -2", "who(0, 9) = -11",
            "who(3, 9) = -2", "who(2, 9) = -7", "clerk(0, 0)", "who(2, 9) = -7", "who(2, 0) = 0");
    }
}
