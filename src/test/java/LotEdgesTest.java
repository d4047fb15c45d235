/** The edges of slips by lots and of images, each under the document's own words: promises 35 to 38. */
public final class LotEdgesTest {
    private static final Due D = new Due();

    public static void main(String[] args) {
        drawnRange();
        lots();
        oddsRange();
        odds();
        image();
        keeps();
        keepsNot();
        D.end();
    }

    private static String[] law(String slips, String... then) {
        String[] rows = new String[then.length + 5];
        rows[0] = "clerk(0, 0)";
        rows[1] = "clerk(1, 0)";
        rows[2] = "clerk(5, 0)";
        rows[3] = "say nought 1;slips " + slips + ";costs 0; = 1";
        rows[4] = "force(1)";
        System.arraycopy(then, 0, rows, 5, then.length);
        return rows;
    }

    // ---- promise 35

    private static void drawnRange() {
        D.edge("SLIPS by a SEED (0 .. 99999)", law("0", "drawn(0, 0, 5) = 5", "drawn(99999, 0, 5) = 5", "drawn(-1, 0, 5) = -7", "drawn(100000, 0, 5) = -7",
            "drawn(most, 0, 5) = -7", "drawn(least, 0, 5) = -7"));
        D.edge("his writing of v (0 .. 99999)", law("0", "drawn(0, 0, 0) = 1", "drawn(0, 0, 99999) = 99999", "drawn(0, 0, -1) = -7", "drawn(0, 0, 100000) = -7",
            "drawn(0, 0, most) = -7", "drawn(0, 0, least) = -7"));
        D.edge("-5: no such CLERK; -7: SEED, v.", law("0", "drawn(0, 3, 5) = -5", "drawn(0, -1, 5) = -5", "drawn(-1, 3, -1) = -5", "drawn(100000, 5, 100000) = -5",
            "drawn(0, most, 5) = -5", "drawn(0, 2, 5) = 5"));
        D.edge("-5: no such CLERK; -7: SEED, v.", "drawn(0, 0, 0) = -5");
    }

    /** SEED 0: 48271; by 48271 that is 2330089441, less 2147483647 it is 182605794. */
    private static void lots() {
        String below = "it slips, if LOT modulo 100 is below slips (of the number)";
        D.edge(below, law("71", "drawn(0, 0, 5) = 5", "drawn(0, 0, 55) = 55"));
        D.edge(below, law("72", "drawn(0, 0, 5) = 6", "drawn(0, 0, 55) = 65", "drawn(0, 1, 55) = 56"));
        D.edge(below, law("94", "drawn(0, 0, 55) = 65"));
        D.edge(below, law("95", "drawn(0, 0, 55) = 66"));
        D.edge(below + ": slips 0", law("0", "drawn(0, 0, 99999) = 99999", "drawn(99999, 1, 99999) = 99999"));
        D.edge(below + ": slips 100", law("100", "drawn(0, 0, 99999) = 111110", "drawn(99999, 1, 11111) = 22222", "drawn(7, 2, 0) = 0"));
        D.edge(below + ": slips more than 100", law("9999", "drawn(0, 0, 11) = 22"));
        D.edge(below + ": of the number that is meant", law("(v=10)*100", "drawn(0, 0, 10) = 9", "drawn(0, 0, 9) = 9", "drawn(0, 0, 11) = 11", "drawn(0, 0, 0) = 1"));
        String first = "LOTS: the first is (SEED and 1) times 48271 modulo 2147483647, each further one the last times 48271 modulo 2147483647.";
        // SEED 44488: 44489 times 48271 is 2147528519, less 2147483647 it is 44872; SEED 44487 is below it still: 2147480248.
        D.edge(first, law("72", "drawn(44488, 0, 5) = 5"));
        D.edge(first, law("73", "drawn(44488, 0, 5) = 6"));
        D.edge(first, law("48", "drawn(44487, 0, 5) = 5"));
        D.edge(first, law("49", "drawn(44487, 0, 5) = 6"));
        // SEED 99999: 4827100000 less twice 2147483647 is 532132706.
        D.edge(first, law("6", "drawn(99999, 0, 5) = 5"));
        D.edge(first, law("7", "drawn(99999, 0, 5) = 6"));
        long lot = 1;
        long seven = 0;
        for (int i = 0; i < 16; i++) {
            lot = lot * 48271 % 2147483647;
            seven = 2 * seven + (lot % 100 < 50 ? 2 : 1);
        }
        D.edge(first + " sixteen figures", law("50", "set(0, 2)", "drawn(0, 0, 65535) = " + seven));
    }

    // ---- promise 36

    private static void oddsRange() {
        String no = " = " + NoZeroWithin.NO;
        D.edge("In how many of so many (1 .. 60) seeds", law("0", "odds(0, 1, 0, 5, 0) = 1", "odds(0, 60, 0, 5, 0) = 1", "odds(0, 0, 0, 5, 0)" + no,
            "odds(0, 61, 0, 5, 0)" + no, "odds(0, -1, 0, 5, 0)" + no, "odds(0, most, 0, 5, 0)" + no, "odds(0, least, 0, 5, 0)" + no));
        D.edge("NO: none such.", law("0", "odds(-1, 1, 0, 5, 0)" + no, "odds(0, 1, 0, 5, 1) = 1", "odds(100000, 1, 0, 5, 0)" + no, "odds(99999, 1, 0, 5, 1) = 1",
            "odds(0, 1, 3, 5, 0)" + no, "odds(0, 1, -1, 5, 0)" + no, "odds(0, 1, 2, 5, 1) = 1", "odds(0, 1, 0, -1, 0)" + no, "odds(0, 1, 0, 100000, 0)" + no,
            "odds(0, 1, 0, 0, 1) = 1", "odds(0, 1, 0, 99999, 1) = 1", "odds(0, 1, 0, 5, -1)" + no, "odds(0, 1, 0, 5, 2)" + no, "odds(most, 1, 0, 5, 0)" + no));
        D.edge("NO: none such.", "odds(0, 1, 0, 5, 0)" + no);
    }

    /** The LOTS of SEED 0 .. 3 end by 71, 42, 13, 84; those of 99999 .. 100001 by 6, 77, 48. */
    private static void odds() {
        String lowest = "part 0 above, 1 below the line, in lowest terms";
        D.edge(lowest, law("43", "odds(0, 4, 0, 5, 0) = 1", "odds(0, 4, 0, 5, 1) = 2", "odds(0, 3, 0, 5, 0) = 1", "odds(0, 3, 0, 5, 1) = 3", "odds(0, 1, 0, 5, 0) = 1",
            "odds(0, 1, 0, 5, 1) = 1", "odds(1, 2, 0, 5, 0) = 0", "odds(1, 2, 0, 5, 1) = 1"));
        D.edge(lowest + ": all, none", law("(v=5)*100", "odds(0, 60, 0, 5, 0) = 0", "odds(0, 60, 0, 5, 1) = 1", "odds(0, 60, 0, 6, 0) = 1", "odds(0, 60, 0, 6, 1) = 1",
            "odds(0, 60, 2, 0, 0) = 1", "odds(0, 60, 2, 0, 1) = 1"));
        String pass = "SEED and each 1 more (they may pass 99999)";
        D.edge(pass, law("48", "odds(99999, 3, 0, 5, 0) = 2", "odds(99999, 3, 0, 5, 1) = 3", "odds(99999, 1, 0, 5, 0) = 0", "odds(99999, 2, 0, 5, 0) = 1",
            "odds(99999, 2, 0, 5, 1) = 2"));
        D.edge(pass, law("49", "odds(99999, 3, 0, 5, 0) = 1", "odds(99999, 3, 0, 5, 1) = 3"));
        int alike = 0;
        for (int seed = 99999; seed < 99999 + 60; seed++) {
            alike += (seed + 1L) * 48271 % 2147483647 % 100 < 30 ? 0 : 1;
        }
        int by = 60;
        while (alike % by != 0 || 60 % by != 0) {
            by--;
        }
        D.edge(pass, law("30", "odds(99999, 60, 0, 5, 0) = " + alike / by, "odds(99999, 60, 0, 5, 1) = " + 60 / by));
        // Two SLIPS, up of the one and down of the other, can't be as without them; a ten for a nine and a one more can't either.
        D.edge("that is as without SLIPS", law("100", "odds(0, 60, 0, 55, 0) = 0", "odds(0, 60, 0, 110, 0) = 0"));
    }

    // ---- promises 37 and 38

    private static void image() {
        D.edge("STATE: there is none.", "back() = -3", "clerk(0, 0)", "back() = -3", "count(0) = 1", "image() = 1", "back() = 1");
        D.edge("AN IMAGE is kept: how many CLERKS.", "image() = 0", "clerk(0, 0)", "image() = 1", "clerk(0, 0)", "clerk(0, 0)", "clerk(0, 0)", "clerk(0, 0)", "image() = 5");
        String none = "CLERKS that came since are none: how many there are.";
        D.edge(none, "image() = 0", "clerk(3, 1)", "clerk(3, 2)", "back() = 0", "count(0) = 0", "told(0, 0) = -5", "taken(0, 0) = -11", "clerk(1, 5) = 0", "told(0, 1) = 5");
        D.edge(none, "clerk(3, 1)", "image() = 1", "back() = 1", "clerk(4, 2) = 1", "clerk(4, 2) = 2", "clerk(4, 2) = 3", "clerk(4, 2) = 4", "clerk(4, 2) = -4",
            "back() = 1", "told(1, 0) = -5", "told(0, 0) = 3", "clerk(5, 7) = 1", "told(1, 0) = 5", "told(1, 1) = 7");
        D.edge("All that it keeps is as in THE IMAGE, once more", "set(0, 5)", "image()", "set(0, 6)", "back() = 0", "count(1) = 5", "set(0, 7)", "back() = 0", "count(1) = 5");
        D.edge("a later IMAGE is THE IMAGE", "set(0, 5)", "image()", "set(0, 6)", "image()", "set(0, 7)", "back()", "count(1) = 6");
    }

    private static void keeps() {
        String keeps = "AN IMAGE keeps BASE, THE YEAR, what all OWE, how many CLERKS there are, THE LAW.";
        D.edge(keeps, "say nought 1;slips 0;costs 0;", "set(0, 5)", "set(1, -8)", "lend(0, 1, 3)", "lend(5, 4, 9999)", "force(1)", "clerk(2, 2)", "image() = 1",
            "set(0, 12)", "set(1, 99)", "lend(0, 1, 4)", "lend(5, 4, 0)", "lend(3, 2, 1)", "force(0)", "clerk(2, 2)", "back() = 1", "count(0) = 1", "count(1) = 5",
            "count(2) = -8", "count(4) = 1", "debt(0, 1) = 3", "debt(5, 4) = 9999", "debt(3, 2) = 0", "told(0, 2) = 5");
        NoZeroWithin x = new NoZeroWithin();
        for (int pass = 0; pass < 2; pass++) {
            for (int f = 0; f < 6; f++) {
                for (int g = 0; g < 6; g++) {
                    x.lend(f, g, pass == 0 ? 10 * f + g : 77);
                }
            }
            if (pass == 0) {
                x.image();
            }
        }
        x.back();
        for (int f = 0; f < 6; f++) {
            for (int g = 0; g < 6; g++) {
                D.due(keeps + " what all OWE", x.debt(f, g), f == g ? -5 : 10 * f + g);
            }
        }
        D.edge(keeps + " of a new object", "image() = 0", "set(0, 2)", "set(1, -1)", "lend(0, 1, 1)", "say nought 1;slips 0;costs 0;", "force(1)", "back() = 0",
            "count(1) = 10", "count(2) = 1", "debt(0, 1) = 0", "count(4) = 0");
        D.edge("by pay(), clear(), too", "clerk(0, 0)", "lend(0, 1, 5)", "lend(1, 0, 7)", "image()", "clear() = 10", "pay(0, 10, 2) = 1", "back()", "debt(0, 1) = 5",
            "debt(1, 0) = 7");
    }

    private static void keepsNot() {
        String keepsNot = "AN IMAGE keeps no TEXTS, no TAPE, no SHEETS";
        D.edge(keepsNot, "clerk(0, 0)", "fill 0 2: 1 2", "image()", "say nought 7;slips 0;costs 0; = 1", "force(1)", "feed(3, 1, 2, 3, 4, 5)", "fill 0 2: 3 4 5",
            "fill 1 0: 9", "back() = 1", "count(3) = 2", "count(4) = 0", "force(1) = 0", "asks(0, 0, 0, 0) = 7", "count(5) = 3", "book(0, 0, 1) = 12", "book(1, 0, 1) = 9");
        D.edge("image() changes nothing else", "clerk(0, 0)", "set(0, 4)", "lend(0, 1, 2)", "image()", "count(0) = 1", "count(1) = 4", "debt(0, 1) = 2");
    }
}
