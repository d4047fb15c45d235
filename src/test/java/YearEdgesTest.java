/** The edges of years, each under the document's own words: promises 27 to 29. */
public final class YearEdgesTest {
    private static final Due D = new Due();

    public static void main(String[] args) {
        span();
        behind();
        behindRange();
        alikeRange();
        alike();
        alikeAcross();
        D.end();
    }

    // ---- promise 27

    private static void span() {
        String many = "How many YEARS it is from one to another one (below 0: back).";
        D.edge(many, "span(1, 2) = 1", "span(2, 1) = -1", "span(1, 1) = 0", "span(-1, -1) = 0", "span(999, 999) = 0", "span(-999, -999) = 0", "span(1, 999) = 998",
            "span(-999, -1) = 998", "span(-2, -1) = 1", "span(-1, -2) = -1");
        D.edge("there is none 0: behind -1 comes 1.", "span(-1, 1) = 1", "span(1, -1) = -1", "span(-1, 2) = 2", "span(-2, 1) = 2", "span(-999, 999) = 1997",
            "span(999, -999) = -1997", "span(-999, 1) = 999", "span(-1, 999) = 999");
        D.edge("-100000: none such (0; below -999; above 999).", "span(0, 1) = -100000", "span(1, 0) = -100000", "span(0, 0) = -100000", "span(-1000, 1) = -100000",
            "span(1, -1000) = -100000", "span(1000, 1) = -100000", "span(1, 1000) = -100000", "span(most, 1) = -100000", "span(1, least) = -100000",
            "span(least, most) = -100000");
        D.edge("THE YEAR does not matter", "set(1, -500)", "span(-1, 1) = 1", "behind(-1, 1) = 1", "set(1, 999)", "behind(1, 1) = 2");
    }

    // ---- promise 28

    private static void behind() {
        D.edge("there is none 0: behind -1 comes 1.", "behind(-1, 1) = 1", "behind(1, -1) = -1", "behind(-2, 2) = 1", "behind(2, -2) = -1", "behind(-1, 0) = -1",
            "behind(1, 0) = 1", "behind(-5, 9) = 5", "behind(5, -9) = -5");
        D.edge("-100001: it is below -999, above 999.", "behind(998, 1) = 999", "behind(999, 1) = -100001", "behind(999, 0) = 999", "behind(-998, -1) = -999",
            "behind(-999, -1) = -100001", "behind(-999, 0) = -999", "behind(1, 998) = 999", "behind(1, 999) = -100001", "behind(-1, 999) = 999",
            "behind(-1, 1000) = -100001", "behind(1, -999) = -999", "behind(1, -1000) = -100001", "behind(-999, 1997) = 999", "behind(-999, 1998) = -100001",
            "behind(999, -1997) = -999", "behind(999, -1998) = -100001");
    }

    private static void behindRange() {
        D.edge("The YEAR so many (-3000 .. 3000) behind one.", "behind(-999, 3000) = -100001", "behind(-999, 3001) = -100000", "behind(999, -3000) = -100001",
            "behind(999, -3001) = -100000", "behind(1, 3000) = -100001", "behind(1, 3001) = -100000", "behind(1, -3000) = -100001", "behind(1, -3001) = -100000",
            "behind(1, most) = -100000", "behind(1, least) = -100000", "behind(-1, most) = -100000", "behind(-1, least) = -100000");
        D.edge("-100000: none such; -100001: it is below -999, above 999.", "behind(0, 1) = -100000", "behind(0, 3000) = -100000", "behind(1000, -1) = -100000",
            "behind(-1000, 1) = -100000", "behind(1000, 3000) = -100000", "behind(0, 3001) = -100000", "behind(most, 1) = -100000", "behind(least, -1) = -100000");
    }

    // ---- promise 29

    private static void alikeRange() {
        D.edge("(years 1 .. 200; to 999 at most)", "clerk(0, 0)", "alike(0, 1, 0) = 0", "alike(0, 1, 1) = -100001", "alike(0, 0, 0) = -100007", "alike(0, -1, 0) = -100007",
            "alike(0, 200, 0) = 19", "alike(0, 201, 0) = -100007", "alike(0, most, 0) = -100007", "alike(0, least, 0) = -100007");
        D.edge("-100005: no such CLERK; -100007: years, what.", "alike(0, 5, 0) = -100005", "clerk(0, 0)", "alike(1, 5, 0) = -100005", "alike(-1, 5, 0) = -100005",
            "alike(1, 0, 9) = -100005", "alike(0, 5, -1) = -100007", "alike(0, 5, 2) = -100007", "alike(0, 5, most) = -100007");
        // 10 years behind comes the first like one: 11 years are needed.
        D.edge("Of the next (years less 1) YEARS behind THE YEAR", "clerk(0, 0)", "alike(0, 10, 0) = 0", "alike(0, 10, 1) = -100001", "alike(0, 11, 0) = 1",
            "alike(0, 11, 1) = 11", "alike(0, 20, 0) = 1", "alike(0, 21, 0) = 2", "alike(0, 21, 1) = 11", "alike(0, 190, 0) = 18", "alike(0, 191, 0) = 19");
        D.edge("to 999 at most", "clerk(0, 0)", "set(1, 989)", "alike(0, 200, 0) = 1", "alike(0, 200, 1) = 999", "alike(0, 11, 1) = 999", "alike(0, 10, 1) = -100001",
            "set(1, 990)", "alike(0, 200, 0) = 0", "alike(0, 200, 1) = -100001", "set(1, 999)", "alike(0, 200, 0) = 0", "alike(0, 1, 0) = 0",
            "alike(0, 200, 1) = -100001", "set(1, 998)", "alike(0, 200, 0) = 0");
    }

    private static void alike() {
        String last = "with the same last figure written as that of THE YEAR";
        D.edge(last, "clerk(0, 0)", "set(1, 10)", "alike(0, 11, 1) = 20", "alike(0, 92, 0) = 9", "set(0, 2)", "set(1, 2)", "alike(0, 3, 1) = 4", "alike(0, 4, 0) = 1");
        // TURNED the last one written is the greatest: 2, 20 .. 29 but for 20 (1 and ten), and 30 (2 and ten).
        D.edge(last + ": TURNED", "clerk(1, 0)", "set(1, 2)", "alike(0, 19, 0) = 0", "alike(0, 20, 1) = 21", "alike(0, 29, 0) = 10", "alike(0, 30, 0) = 10");
        // A KINDLY writes 11 of 10, a STRANGER of nine figures 1 1 of 10.
        D.edge(last + ": of what he MAKES of it, by his FIGURES", "clerk(2, 0)", "clerk(5, 0)", "set(1, 1)", "alike(0, 10, 1) = 10", "alike(1, 10, 1) = 10",
            "alike(1, 9, 1) = -100001", "alike(0, 11, 0) = 2", "alike(1, 11, 0) = 1");
    }

    private static void alikeAcross() {
        String sign = "those whose number, without its sign, a CLERK writes";
        D.edge(sign, "clerk(0, 0)", "set(1, -1)", "alike(0, 2, 0) = 1", "alike(0, 2, 1) = 1", "alike(0, 1, 0) = 0", "set(1, -11)", "alike(0, 11, 1) = -1",
            "alike(0, 11, 0) = 1", "alike(0, 12, 0) = 2", "alike(0, 22, 0) = 3", "set(1, -9)", "alike(0, 10, 0) = 0", "alike(0, 18, 1) = 9",
            "alike(0, 17, 1) = -100001");
        D.edge(sign + ": from the first YEAR on", "clerk(0, 0)", "set(1, -999)", "alike(0, 11, 1) = -989", "alike(0, 200, 0) = 19", "alike(0, 10, 1) = -100001");
    }
}
