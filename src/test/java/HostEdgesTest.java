/** The edges of the host's calls, each under the document's own words: promises 39 to 43. */
public final class HostEdgesTest {
    private static final Due D = new Due();

    public static void main(String[] args) {
        sheet();
        sheetBecomes();
        cell();
        cellBits();
        copy();
        copyOwn();
        clerksBy();
        clerksByCame();
        taken();
        takenKinds();
        D.end();
    }

    // ---- promise 39

    private static void sheet() {
        D.edge("SHEETS 0 .. 3", "sheet(0, 0, 1) = 1", "sheet(3, 0, 1) = 1", "sheet(-1, 0, 1) = -2", "sheet(4, 0, 1) = -2", "sheet(most, 0, 1) = -2", "sheet(least, 0, 1) = -2",
            "cell(0, 0, 1) = 1", "cell(1, 0, 1) = -11", "cell(2, 0, 1) = -11", "cell(3, 0, 1) = 1");
        D.edge("of sort 0 bytes, 1 shorts, 2 ints", "sheet(0, 0, 1) = 1", "sheet(0, 1, 1) = 1", "sheet(0, 2, 1) = 1", "sheet(0, 3, 1) = -2", "sheet(0, -2, 1) = -2",
            "sheet(0, most, 1) = -2", "sheet(0, least, 1) = -2", "clerksBy(0, 2, 0, 0) = 0");
        D.edge("40 at most", "sheet(0, 0, 40) = 1", "cell(0, 39, 1) = 1", "cell(0, 40, 1) = -12", "sheet(0, 0, 41) = -2", "sheet(0, 0, most) = -2", "cell(0, 39, 1) = 1",
            "sheet(0, 0, 0) = 1", "cell(0, 0, 1) = -12", "sheet(0, 0, -1) = -14", "sheet(0, 0, least) = -14");
        D.edge("BAD: SHEET, sort, n above 40; -14.", "sheet(4, 0, -1) = -2", "sheet(0, 3, -1) = -2", "sheet(0, 2, -1) = -14", "sheet(0, -2, -1) = -2", "sheet(4, -1, 0) = -2",
            "cell(0, 0, 1) = -11");
        D.edge("-14 a size below 0. They change nothing", "clerk(0, 0)", "fill 0 2: 5 6", "sheet(0, 2, -1) = -14", "sheet(0, 2, 41) = -2", "sheet(0, 3, 1) = -2", "book(0, 0, 1) = 11");
    }

    private static void sheetBecomes() {
        D.edge("A SHEET becomes a row of n of a sort, all 0", "clerk(5, 0)", "fill 0 2: 5 6 7", "sheet(0, 2, 3) = 1", "book(0, 0, 1) = 0", "cell(0, 3, 0) = -12", "fill 0 2: 5 6 7",
            "sheet(0, 2, 1) = 1", "sheet(0, 2, 3) = 1", "book(0, 0, 1) = 0", "fill 0 2: 5 6 7", "sheet(0, -1, 0) = 1", "sheet(0, 0, 3) = 1", "book(0, 0, 1) = 0");
        D.edge("or missing (sort -1: n does not matter): 1.", "sheet(0, 0, 3) = 1", "sheet(0, -1, 41) = 1", "cell(0, 0, 0) = -11", "sheet(0, -1, -1) = 1", "sheet(0, -1, most) = 1",
            "sheet(0, -1, least) = 1", "sheet(1, -1, 5) = 1", "cell(1, 0, 0) = -11");
    }

    // ---- promise 40

    private static void cell() {
        D.edge("BAD: SHEET; -11; -12.", "cell(-1, 0, 1) = -2", "cell(4, 0, 1) = -2", "cell(4, -1, 1) = -2", "cell(0, 0, 1) = -11", "cell(0, -1, 1) = -11", "sheet(0, 2, 2)",
            "cell(0, -1, 1) = -12", "cell(0, 0, 1) = 1", "cell(0, 1, 1) = 1", "cell(0, 2, 1) = -12", "cell(0, 39, 1) = -12", "cell(0, most, 1) = -12", "cell(0, least, 1) = -12",
            "cell(most, 0, 1) = -2", "cell(least, 0, 1) = -2");
        D.edge("a SHEET of none", "sheet(0, 2, 0)", "cell(0, 0, 1) = -12", "cell(0, -1, 1) = -12");
        D.edge("Number i of a SHEET becomes v", "clerk(0, 0)", "sheet(0, 2, 3)", "cell(0, 1, 99999) = 1", "book(0, 0, 1) = 99999", "cell(0, 1, 7) = 1", "book(0, 0, 1) = 7",
            "cell(0, 2, 5) = 1", "book(0, 0, 1) = 12");
    }

    /** sort, v, and what becomes of it: a CLERK's number of 99999 at most, or -2 of a book. */
    private static void becomes(int sort, String v, int want) {
        D.edge("(of bytes, shorts its lowest 8, 16 bits)", "clerk(0, 0)", "sheet(0, " + sort + ", 1)", "cell(0, 0, " + v + ") = 1", "book(0, 0, 1) = " + want);
    }

    private static void cellBits() {
        becomes(0, "0", 0);
        becomes(0, "127", 127);
        becomes(0, "128", -2);
        becomes(0, "255", -2);
        becomes(0, "256", 0);
        becomes(0, "383", 127);
        becomes(0, "384", -2);
        becomes(0, "-1", -2);
        becomes(0, "-128", -2);
        becomes(0, "-129", 127);
        becomes(0, "-256", 0);
        becomes(0, "most", -2);
        becomes(0, "least", 0);
        becomes(1, "127", 127);
        becomes(1, "256", 256);
        becomes(1, "32767", 32767);
        becomes(1, "32768", -2);
        becomes(1, "65535", -2);
        becomes(1, "65536", 0);
        becomes(1, "98303", 32767);
        becomes(1, "-1", -2);
        becomes(1, "-32769", 32767);
        becomes(1, "most", -2);
        becomes(1, "least", 0);
        becomes(2, "65536", 65536);
        becomes(2, "99999", 99999);
        becomes(2, "100000", -2);
        becomes(2, "-1", -2);
        // A row's second number may be below 0, so that it stands for what became of it: never his.
        D.edge("(of bytes, shorts its lowest 8, 16 bits): a plain() of 255 is no -1", "clerk(0, 0)", "fill 0 0: 0 0", "say nought 255;slips 0;costs 0; = 1", "force(1)",
            "cell(0, 1, 255) = 1", "judge(0, 0) = 0", "fill 1 1: 0 0", "cell(1, 1, 255) = 1", "judge(1, 0) = -1");
    }

    // ---- promise 41

    private static void copy() {
        D.edge("BAD: SHEETS; -11; -13: unlike sorts; -12 (n below 0, too).", "copy(4, 0, 0, 0, 1) = -2", "copy(0, 0, 4, 0, 1) = -2", "copy(-1, 0, 0, 0, 1) = -2",
            "copy(0, 0, -1, 0, 1) = -2", "copy(0, 0, 0, 0, 0) = -11", "sheet(0, 0, 2)", "copy(0, 0, 1, 0, 0) = -11", "copy(1, 0, 0, 0, 0) = -11", "copy(1, -1, 0, -1, -1) = -11",
            "copy(4, 0, 1, 0, 0) = -2", "copy(1, 0, 4, 0, 0) = -2", "sheet(1, 1, 2)", "copy(0, 0, 1, 0, 0) = -13", "copy(0, -1, 1, -1, -1) = -13", "copy(1, 0, 0, 0, 5) = -13",
            "sheet(1, 0, 2)", "copy(0, 0, 1, 0, -1) = -12", "copy(0, 0, 1, 0, 0) = 0");
        String place = "-12 (n below 0, too)";
        D.edge(place, "fill 0 2: 1 2 3 4", "fill 1 2: 5 6", "copy(0, 0, 1, 0, 2) = 2", "copy(0, 0, 1, 0, 3) = -12", "copy(0, 2, 1, 0, 2) = 2", "copy(0, 3, 1, 0, 2) = -12",
            "copy(0, 3, 1, 1, 1) = 1", "copy(0, 0, 1, 1, 2) = -12", "copy(0, 0, 1, 2, 1) = -12", "copy(0, 4, 1, 0, 1) = -12", "copy(0, -1, 1, 0, 1) = -12",
            "copy(0, 0, 1, -1, 1) = -12", "copy(0, 0, 1, 0, -1) = -12", "copy(0, 1, 1, 1, -1) = -12", "copy(0, most, 1, 0, 1) = -12", "copy(0, 0, 1, most, 1) = -12",
            "copy(0, 0, 1, 0, most) = -12", "copy(0, 0, 1, 0, least) = -12", "copy(0, least, 1, 0, 1) = -12", "copy(0, 1, 1, 1, most) = -12");
        D.edge(place + ": none of them", "fill 0 2: 1 2 3 4", "fill 1 2: 5 6", "copy(0, 4, 1, 2, 0) = 0", "copy(0, 5, 1, 0, 0) = -12", "copy(0, 0, 1, 3, 0) = -12",
            "copy(0, -1, 1, 0, 0) = -12", "copy(0, 0, 1, -1, 0) = -12", "sheet(0, 2, 0)", "copy(0, 0, 0, 0, 0) = 0", "copy(0, 0, 0, 0, 1) = -12", "copy(0, 0, 0, 1, 0) = -12");
        D.edge("n numbers of a SHEET, from i on, come to another one's place j: n.", "clerk(0, 0)", "fill 0 2: 1 20 300 4000", "fill 1 2: 5 6 7", "copy(0, 1, 1, 0, 2) = 2",
            "book(1, 0, 1) = 327", "book(0, 0, 1) = 4321", "copy(0, 3, 1, 2, 1) = 1", "book(1, 0, 1) = 4320", "copy(1, 2, 0, 0, 1) = 1", "book(0, 0, 1) = 8320");
        D.edge("40 at most", "fill 0 2: 9", "sheet(1, 2, 40)", "sheet(2, 2, 40)", "copy(1, 0, 2, 0, 40) = 40", "copy(1, 0, 2, 0, 41) = -12", "copy(0, 0, 2, 39, 1) = 1",
            "copy(0, 0, 2, 40, 1) = -12");
        D.edge("as they were: below 0, too", "clerk(0, 0)", "fill 0 0: -1", "fill 1 0: 5", "book(1, 0, 1) = 5", "copy(0, 0, 1, 0, 1) = 1", "book(1, 0, 1) = -2");
    }

    /** What stands there, one by one, is seen when all others are 0. */
    private static void copyOwn() {
        String own = "come to another one's (or its own) place j (as they were): n.";
        String[][] runs = {{"copy(0, 0, 0, 1, 4) = 4", "1 1 2 3 4"}, {"copy(0, 1, 0, 0, 4) = 4", "2 3 4 5 5"}, {"copy(0, 0, 0, 2, 3) = 3", "1 2 1 2 3"},
            {"copy(0, 2, 0, 0, 3) = 3", "3 4 5 4 5"}, {"copy(0, 0, 0, 0, 5) = 5", "1 2 3 4 5"}, {"copy(0, 4, 0, 0, 1) = 1", "5 2 3 4 5"}};
        for (String[] run : runs) {
            String[] want = run[1].split(" ");
            for (int i = 0; i < 5; i++) {
                D.edge(own, "clerk(0, 0)", "fill 0 2: 1 2 3 4 5", run[0], "sheet(1, 2, 1)", "copy(0, " + i + ", 1, 0, 1) = 1", "book(1, 0, 1) = " + want[i]);
            }
        }
    }

    // ---- promise 42

    private static void clerksBy() {
        D.edge("BAD: SHEET, sort, n; -11; -13; -12", "clerksBy(4, 0, 0, 1) = -2", "clerksBy(-1, 0, 0, 1) = -2", "clerksBy(0, 3, 0, 1) = -2", "clerksBy(0, -1, 0, 1) = -2",
            "clerksBy(0, 0, 0, 6) = -2", "clerksBy(0, 0, 0, -1) = -2", "clerksBy(0, 0, -1, 1) = -11", "clerksBy(0, 0, 0, 0) = -11", "sheet(0, 1, 2)", "clerksBy(0, 0, -1, 1) = -13",
            "clerksBy(0, 2, 0, 1) = -13", "clerksBy(0, 2, 0, 0) = -13", "clerksBy(0, 1, -1, 1) = -12", "clerksBy(0, 1, 1, 1) = -12", "clerksBy(0, 1, 2, 1) = -12",
            "clerksBy(0, 1, most, 1) = -12", "clerksBy(0, 1, least, 1) = -12", "clerksBy(0, 1, most, 5) = -12", "count(0) = 0", "clerksBy(0, 1, 0, 1) = 1", "count(0) = 1");
        D.edge("n of them (0 .. 5)", "fill 0 0: 0 1 0 2 0 3 0 4 0 5 0 6", "clerksBy(0, 0, 0, 0) = 0", "count(0) = 0", "clerksBy(0, 0, 0, 5) = 5", "count(0) = 5", "told(4, 1) = 5",
            "clerksBy(0, 0, 0, 6) = -2");
        for (int sort = 0; sort < 3; sort++) {
            D.edge("CLERKS by a SHEET of a sort", "fill 0 " + sort + ": 3 9 5 0", "clerksBy(0, " + sort + ", 0, 2) = 2", "told(0, 0) = 3", "told(0, 1) = 9", "told(1, 0) = 5", "told(1, 1) = 0");
        }
        D.edge("from a place on, two by two (as of clerk())", "fill 0 2: 9 1 2 3 4 9", "clerksBy(0, 2, 1, 2) = 2", "told(0, 0) = 1", "told(0, 1) = 2", "told(1, 0) = 3", "told(1, 1) = 4",
            "clerksBy(0, 2, 4, 1) = 1", "told(2, 0) = 4", "told(2, 1) = 9");
        D.edge("the last of 40", "sheet(0, 2, 40)", "cell(0, 38, 3)", "cell(0, 39, 4)", "clerksBy(0, 2, 39, 1) = -12", "clerksBy(0, 2, 38, 1) = 1", "told(0, 0) = 3", "told(0, 1) = 4");
    }

    private static void clerksByCame() {
        String left = "how many came (others are left out)";
        D.edge(left, "fill 0 2: 6 0 -1 0 0 10 0 -1 5 9", "clerksBy(0, 2, 0, 4) = 0", "count(0) = 0", "clerksBy(0, 2, 0, 5) = 1", "count(0) = 1", "told(0, 0) = 5", "told(0, 1) = 9");
        D.edge(left + ": when there are 5", "clerk(0, 0)", "clerk(0, 0)", "clerk(0, 0)", "fill 0 2: 1 1 2 2 3 3 4 4 5 5", "clerksBy(0, 2, 0, 5) = 2", "count(0) = 5", "told(3, 0) = 1",
            "told(4, 0) = 2", "clerksBy(0, 2, 0, 5) = 0", "clerksBy(0, 2, 0, 1) = 0", "count(0) = 5");
        String ahead = "-12: what stood ahead came.";
        D.edge(ahead, "fill 0 2: 1 1 2 2 3 3", "clerksBy(0, 2, 0, 4) = -12", "count(0) = 3", "told(2, 0) = 3");
        D.edge(ahead, "fill 0 2: 1 1 2 2 3", "clerksBy(0, 2, 0, 3) = -12", "count(0) = 2", "told(1, 0) = 2", "told(2, 0) = -5");
        D.edge(ahead, "fill 0 2: 1 1 6 6 3", "clerksBy(0, 2, 0, 3) = -12", "count(0) = 1");
        D.edge(ahead, "fill 0 2: 1 1 2 2 3", "clerksBy(0, 2, 4, 1) = -12", "clerksBy(0, 2, 3, 1) = 1", "clerksBy(0, 2, 3, 2) = -12", "count(0) = 2", "clerksBy(0, 2, -1, 3) = -12",
            "clerksBy(0, 2, -2, 3) = -12", "count(0) = 2", "sheet(1, 2, 0)", "clerksBy(1, 2, 0, 1) = -12", "clerksBy(1, 2, 0, 0) = 0");
        D.edge(ahead + " when there are 5, too", "clerk(0, 0)", "clerk(0, 0)", "clerk(0, 0)", "clerk(0, 0)", "fill 0 2: 1 1 2 2", "clerksBy(0, 2, 0, 3) = -12", "count(0) = 5",
            "clerksBy(0, 2, 0, 3) = -12", "clerksBy(0, 2, 0, 2) = 0");
    }

    // ---- promise 43

    private static void taken() {
        D.edge("BAD: kind; -12: i; -11: nothing lies there; -13.", "taken(0, -1) = -2", "taken(0, 7) = -2", "taken(-1, 7) = -2", "taken(11, -1) = -2", "taken(0, most) = -2",
            "taken(0, least) = -2", "taken(-1, 0) = -12", "taken(11, 6) = -12", "taken(most, 0) = -12", "taken(least, 0) = -12", "taken(0, 0) = -11", "taken(4, 6) = -11",
            "taken(5, 6) = -11", "taken(10, 0) = -11", "clerk(0, 0)", "taken(0, 0) = 0", "taken(0, 1) = -13", "taken(0, 6) = -13", "taken(1, 0) = -11", "taken(1, 1) = -11",
            "lend(0, 1, 1)", "taken(5, 6) = 1", "taken(5, 0) = -13", "taken(5, 5) = -13", "taken(6, 6) = -11", "taken(6, 0) = -11");
        D.edge("What lies at place i: 0 .. 4 CLERKS", "clerk(0, 0)", "clerk(0, 0)", "clerk(0, 0)", "clerk(0, 0)", "taken(3, 0) = 3", "taken(4, 0) = -11", "clerk(5, 0)", "taken(4, 0) = 4",
            "taken(4, 5) = 4", "taken(4, 4) = -13", "taken(0, 5) = -13");
        D.edge("5 .. 10 FOLK 0 .. 5 who OWE anything", "lend(5, 0, 1)", "taken(10, 6) = 1", "taken(9, 6) = -11", "taken(5, 6) = -11", "lend(5, 0, 0)", "taken(10, 6) = -11");
        NoZeroWithin x = new NoZeroWithin();
        for (int f = 0; f < 6; f++) {
            for (int g = 0; g < 6; g++) {
                x.lend(f, g, 9999 - f);
            }
        }
        for (int f = 0; f < 6; f++) {
            D.due("6 one of FOLK: what he OWES all others, together", x.taken(5 + f, 6), 5 * (9999 - f));
        }
    }

    private static void takenKinds() {
        String[] are = {"0", "0 1", "0 2", "0 1 3", "0 2 4", "0 5"};
        for (int kind = 0; kind <= 5; kind++) {
            for (int as = 0; as <= 6; as++) {
                boolean is = (" " + are[kind] + " ").contains(" " + as + " ");
                D.edge("taken for 0 .. 5 a CLERK of that KIND (also of one that is one): his number: a " + kind + " for a " + as, "clerk(0, 0)", "clerk(0, 0)",
                    "clerk(" + kind + ", 9)", "taken(2, " + as + ") = " + (is ? 2 : -13));
            }
        }
    }
}
