/** The edges of debts, each under the document's own words: promises 21 to 26. */
public final class DebtEdgesTest {
    private static final Due D = new Due();

    public static void main(String[] args) {
        lend();
        debt();
        pay();
        paid();
        rings();
        clearTwo();
        clearThree();
        forgive();
        D.end();
    }

    // ---- promises 21 and 22

    private static void lend() {
        D.edge("One of FOLK OWES another one much (0 .. 9999): what it was.", "lend(0, 1, 0) = 0", "lend(0, 1, 9999) = 0", "lend(0, 1, 10000) = -7",
            "lend(0, 1, -1) = -7", "lend(0, 1, most) = -7", "lend(0, 1, least) = -7", "debt(0, 1) = 9999", "debt(1, 0) = 0", "lend(0, 1, 1) = 9999",
            "lend(0, 1, 0) = 1", "debt(0, 1) = 0");
        D.edge("FOLK 0 .. 5", "lend(0, 5, 1) = 0", "lend(5, 0, 2) = 0", "lend(-1, 0, 3) = -5", "lend(0, -1, 3) = -5", "lend(6, 0, 3) = -5", "lend(0, 6, 3) = -5",
            "lend(most, 0, 3) = -5", "lend(0, most, 3) = -5", "lend(least, 0, 3) = -5", "lend(0, least, 3) = -5", "debt(0, 5) = 1", "debt(5, 0) = 2");
        for (int f = 0; f < 6; f++) {
            D.edge("-5: none such, one and the same; -7: much.", "lend(" + f + ", " + f + ", 1) = -5", "lend(" + f + ", " + f + ", -1) = -5",
                "lend(" + f + ", " + f + ", 0) = -5");
        }
        D.edge("-5 ahead of -7", "lend(6, 0, 10000) = -5", "lend(0, 6, -1) = -5", "lend(-1, -1, 10000) = -5");
    }

    private static void debt() {
        D.edge("What one OWES another one. -5: none such, one and the same.", "lend(2, 4, 7)", "debt(2, 4) = 7", "debt(4, 2) = 0", "debt(2, 2) = -5",
            "debt(-1, 2) = -5", "debt(2, -1) = -5", "debt(6, 2) = -5", "debt(2, 6) = -5", "debt(most, 2) = -5", "debt(2, least) = -5");
        NoZeroWithin x = new NoZeroWithin();
        for (int f = 0; f < 6; f++) {
            for (int g = 0; g < 6; g++) {
                if (f != g) {
                    x.lend(f, g, 100 * f + g);
                }
            }
        }
        for (int f = 0; f < 6; f++) {
            for (int g = 0; g < 6; g++) {
                D.due("each OWES each other one", x.debt(f, g), f == g ? -5 : 100 * f + g);
            }
        }
    }

    // ---- promise 23

    private static void pay() {
        D.edge("-6: no such CLERK; -5: FOLK as of debt(); -7: much; STATE: it is more than he OWES.", "pay(0, 1, 0) = -6", "pay(0, 0, -1) = -6", "clerk(0, 0)",
            "pay(-1, 1, 0) = -6", "pay(1, 1, 0) = -6", "pay(1, 66, 10000) = -6", "pay(0, 0, 0) = -5", "pay(0, 0, -1) = -5", "pay(0, 55, 10000) = -5",
            "pay(0, 60, 0) = -5", "pay(0, 6, 0) = -5", "pay(0, 59, 0) = -5", "pay(0, 65, 0) = -5", "pay(0, -1, 0) = -5", "pay(0, -10, 0) = -5", "pay(0, 100, 0) = -5",
            "pay(0, most, 0) = -5", "pay(0, least, 0) = -5", "pay(0, 1, -1) = -7", "pay(0, 1, 10000) = -7", "pay(0, 1, least) = -7", "pay(0, 1, 9999) = -3",
            "pay(0, 1, 1) = -3", "debt(0, 1) = 0");
        D.edge("One pays another one (fg: 10 times who OWES, and whom) much (0 .. 9999)", "clerk(0, 0)", "lend(0, 5, 9999)", "lend(5, 0, 50)", "pay(0, 5, 0) = 9999",
            "pay(0, 5, 9998) = 1", "pay(0, 50, 49) = 1", "debt(0, 5) = 1", "debt(5, 0) = 1", "lend(0, 5, 9999)", "pay(0, 5, 9999) = 1", "lend(5, 4, 3)",
            "pay(0, 54, 1) = 2", "debt(4, 5) = 0");
        D.edge("STATE: it is more than he OWES.", "clerk(0, 0)", "lend(0, 1, 9)", "pay(0, 1, 10) = -3", "debt(0, 1) = 9", "pay(0, 10, 9) = -3", "debt(0, 1) = 9",
            "pay(0, 1, 8) = 1", "pay(0, 1, 2) = -3", "debt(0, 1) = 1");
    }

    private static void paid() {
        String that = "he OWES so much less; if that is 0, what the CLERK MAKES of 0 (9999 at most): what he OWES then.";
        D.edge(that, "clerk(0, 0)", "clerk(2, 0)", "clerk(4, 9)", "clerk(5, 0)", "lend(0, 1, 9)", "pay(0, 1, 9) = 1", "debt(0, 1) = 1", "pay(1, 1, 1) = 2",
            "debt(0, 1) = 2", "pay(2, 1, 2) = 11", "debt(0, 1) = 11", "pay(3, 1, 11) = 0", "debt(0, 1) = 0");
        D.edge(that + " nothing paid of something", "clerk(0, 0)", "lend(0, 1, 9)", "pay(0, 1, 0) = 9", "debt(0, 1) = 9");
        D.edge(that + " nothing paid of nothing", "clerk(0, 0)", "clerk(5, 0)", "pay(1, 1, 0) = 0", "debt(0, 1) = 0", "pay(0, 1, 0) = 1", "debt(0, 1) = 1");
        D.edge(that + " 9999 at most", "clerk(0, 0)", "clerk(2, 0)", "clerk(4, 9)", "say nought 9998;slips 0;costs 0; = 1", "say nought 9999;slips 0;costs 0; = 2",
            "say nought 9999+1;slips 0;costs 0; = 3", "say nought 9999*11;slips 0;costs 0; = 4", "force(1)", "pay(0, 1, 0) = 9998", "lend(0, 1, 0)", "pay(1, 1, 0) = 9999",
            "lend(0, 1, 0)", "pay(2, 1, 0) = 9999", "force(2)", "lend(0, 1, 0)", "pay(0, 1, 0) = 9999", "pay(1, 1, 9999) = 9999", "force(3)", "lend(0, 1, 0)",
            "pay(0, 1, 0) = 9999", "force(4)", "pay(0, 1, 9999) = 9999", "pay(2, 1, 9999) = 9999", "debt(0, 1) = 9999");
    }

    // ---- promise 24

    /** "01 10": who OWES whom. */
    private static String[] owing(String pairs, String... then) {
        String[] all = pairs.isEmpty() ? new String[0] : pairs.split(" ");
        String[] rows = new String[all.length + then.length];
        for (int i = 0; i < all.length; i++) {
            rows[i] = "lend(" + all[i].charAt(0) + ", " + all[i].charAt(1) + ", 1)";
        }
        System.arraycopy(then, 0, rows, all.length, then.length);
        return rows;
    }

    private static void rings(String sentence, String pairs, int want) {
        D.edge(sentence + ": " + pairs, owing(pairs, "rings() = " + want));
    }

    private static void rings() {
        String rings = "such FOLK as OWE (more than 0) some who OWE others, and so on, at last back to themselves";
        rings(rings, "", 0);
        rings(rings, "01", 0);
        rings(rings, "01 12 23 34 45", 0);
        rings(rings, "01 02 03 04 05 12 13 14 15 23 24 25 34 35 45", 0);
        rings(rings, "01 10", 0b000011);
        rings(rings, "45 54", 0b110000);
        rings(rings, "05 50", 0b100001);
        rings(rings, "01 12 20", 0b000111);
        rings(rings, "01 12 23 34 45 50", 0b111111);
        rings(rings, "05 54 43 32 21 10", 0b111111);
        rings(rings, "03 31 14 42 25 50", 0b111111);
        rings(rings, "01 10 12 23 32", 0b001111);
        rings(rings, "01 10 12 23 34 43", 0b011011);
        rings(rings, "20 01 10 13", 0b000011);
        rings(rings, "01 10 23 32 45 54", 0b111111);
        rings(rings, "01 12 21 23", 0b000110);
        D.edge(rings + ": a debt of 0 is none", "lend(0, 1, 1)", "lend(1, 0, 1)", "rings() = 3", "lend(1, 0, 0)", "rings() = 0", "lend(1, 0, 9999)", "rings() = 3");
    }

    // ---- promise 25

    private static void clearTwo() {
        String two = "of each two f, g (f less than g, by f, then g) who OWE each other both are less by the lesser one";
        D.edge(two, "clear() = 0", "lend(0, 1, 5)", "clear() = 0", "debt(0, 1) = 5");
        D.edge(two, "lend(0, 1, 5)", "lend(1, 0, 5)", "clear() = 10", "debt(0, 1) = 0", "debt(1, 0) = 0", "clear() = 0");
        D.edge(two, "lend(4, 5, 1)", "lend(5, 4, 9999)", "clear() = 2", "debt(4, 5) = 0", "debt(5, 4) = 9998", "clear() = 0");
        NoZeroWithin x = new NoZeroWithin();
        for (int f = 0; f < 6; f++) {
            for (int g = 0; g < 6; g++) {
                x.lend(f, g, 9999);
            }
        }
        D.rows(x, two + ": all that can be owed", "clear() = 299970", "rings() = 0", "clear() = 0");
    }

    private static void clearThree() {
        String three = "then of each three unlike f, g, h (by f, then g, then h, each from 0) f OWES g, g OWES h, h OWES f, all are less by the least of these";
        D.edge(three, "lend(0, 1, 5)", "lend(1, 2, 6)", "lend(2, 0, 7)", "clear() = 15", "debt(0, 1) = 0", "debt(1, 2) = 1", "debt(2, 0) = 2", "clear() = 0");
        D.edge(three + ": the last three", "lend(3, 5, 9999)", "lend(5, 4, 9999)", "lend(4, 3, 9999)", "clear() = 29997", "rings() = 0");
        D.edge(three + ": four are no three", "lend(0, 1, 1)", "lend(1, 2, 1)", "lend(2, 3, 1)", "lend(3, 0, 1)", "clear() = 0", "rings() = 15");
        // Both share what 0 owes 1.
        D.edge(three + ": 0 1 2 ahead of 0 1 3", "lend(0, 1, 4)", "lend(1, 2, 4)", "lend(2, 0, 4)", "lend(1, 3, 4)", "lend(3, 0, 4)", "clear() = 12",
            "debt(1, 2) = 0", "debt(2, 0) = 0", "debt(1, 3) = 4", "debt(3, 0) = 4");
        // Both share what 3 owes 0.
        D.edge(three + ": 0 1 3 ahead of 0 2 3", "lend(0, 1, 2)", "lend(1, 3, 2)", "lend(3, 0, 2)", "lend(0, 2, 2)", "lend(2, 3, 2)", "clear() = 6",
            "debt(0, 1) = 0", "debt(1, 3) = 0", "debt(0, 2) = 2", "debt(2, 3) = 2");
        // 0 3 1 and 1 2 3 share what 3 owes 1.
        D.edge(three + ": from 0 ahead of from 1", "lend(0, 3, 1)", "lend(3, 1, 1)", "lend(1, 0, 1)", "lend(1, 2, 1)", "lend(2, 3, 1)", "clear() = 3",
            "debt(0, 3) = 0", "debt(1, 0) = 0", "debt(1, 2) = 1", "debt(2, 3) = 1");
        // Both share what 5 owes 4.
        D.edge(three + ": 0 5 4 ahead of 1 5 4", "lend(0, 5, 1)", "lend(5, 4, 1)", "lend(4, 0, 1)", "lend(4, 1, 1)", "lend(1, 5, 1)", "clear() = 3", "debt(0, 5) = 0",
            "debt(4, 0) = 0", "debt(4, 1) = 1", "debt(1, 5) = 1");
        D.edge("the twos ahead of the threes", "lend(0, 1, 5)", "lend(1, 0, 3)", "lend(1, 2, 5)", "lend(2, 0, 5)", "clear() = 12", "debt(0, 1) = 0",
            "debt(1, 0) = 0", "debt(1, 2) = 3", "debt(2, 0) = 3");
    }

    // ---- promise 26

    private static void forgive(String sentence, String pairs, int which, int many) {
        D.edge(sentence + ": " + pairs, owing(pairs, "forgive(0) = " + which, "forgive(1) = " + many));
    }

    private static void forgive() {
        String fewest = "such that, were it 0, fewest FOLK would be in RINGS, if fewer than now, of like ones the first";
        forgive("(what 0; -1: none), how many (1; as now, if none)", "", -1, 0);
        forgive("(what 0; -1: none), how many (1; as now, if none)", "01 12", -1, 0);
        forgive("(what 0; -1: none), how many (1; as now, if none)", "01 10 02 20 12 21", -1, 3);
        forgive("(what 0; -1: none), how many (1; as now, if none)", "01 10 02 20 12 21 34", -1, 3);
        forgive(fewest, "01 10", 1, 0);
        forgive(fewest, "45 54", 45, 0);
        forgive(fewest, "54 43 35", 35, 0);
        forgive(fewest, "50 05", 5, 0);
        forgive(fewest, "01 12 23 34 45 50", 1, 0);
        forgive(fewest, "01 10 23 34 42", 23, 2);
        forgive(fewest, "01 12 20 21", 12, 0);
        forgive(fewest, "01 10 12 21 20 02 54 45", 45, 3);
        forgive(fewest, "01 10 12 21", 1, 2);
        forgive(fewest, "01 02 13 23 30", 30, 0);
        forgive(fewest, "54 53 42 32 25", 25, 0);
        D.edge("BAD.", "forgive(-1) = -2", "forgive(2) = -2", "forgive(most) = -2", "forgive(least) = -2");
        D.edge("were it 0: it is as it was", "lend(0, 1, 7)", "lend(1, 0, 9)", "forgive(0) = 1", "debt(0, 1) = 7", "debt(1, 0) = 9", "rings() = 3");
    }
}
