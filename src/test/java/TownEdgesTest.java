import java.util.Arrays;

/** The edges of the town and the law, each under the document's own words: promises 1 to 7. */
public final class TownEdgesTest {
    private static final Due D = new Due();
    private static final String BLANKS_155 = " ".repeat(155);

    public static void main(String[] args) {
        newObject();
        uses();
        count();
        set();
        feed();
        tape();
        text();
        texts();
        force();
        asks();
        bounds();
        names();
        D.end();
    }

    // ---- promise 1

    private static void newObject() {
        D.edge("No CLERKS", "count(0) = 0", "told(0, 0) = -5", "told(4, 0) = -5", "taken(0, 0) = -11", "taken(4, 0) = -11",
            "asks(0, 0, 0, 0) = -2", "plain(0, 1) = -5", "image() = 0");
        D.edge("nobody OWES anything.", "rings() = 0", "clear() = 0", "forgive(0) = -1", "forgive(1) = 0");
        for (int f = 0; f < 6; f++) {
            D.edge("nobody OWES anything.", "taken(" + (5 + f) + ", 6) = -11");
            for (int g = 0; g < 6; g++) {
                D.edge("each OWES each other one 0 .. 9999 (0 at first)", "debt(" + f + ", " + g + ") = " + (f == g ? -5 : 0));
            }
        }
        D.edge("BASE (2 .. 12 figures; 10 at first)", "count(1) = 10", "clerk(0, 0) = 0", "told(0, 2) = 10");
        D.edge("THE YEAR (-999 .. 999, not 0; 1 at first)", "count(2) = 1");
        D.edge("TEXT 0, at first, and THE LAW: nought 1 ; slips 3 ; costs off ;", "count(3) = 1", "count(4) = 0", "force(0) = 0",
            "force(1) = -2", "clerk(0, 9) = 0", "asks(0, 0, 77, 9) = 1", "asks(1, 0, 77, 9) = 3", "asks(2, 0, 77, 9) = 9",
            "asks(2, 0, 0, 0) = 0", "asks(2, 0, 0, 99999) = 99999");
        D.edge("THE TAPE is empty at first", "count(5) = 0", "text() = -100");
        for (int s = 0; s < 4; s++) {
            D.edge("SHEETS 0 .. 3 are missing (as all are at first)", "cell(" + s + ", 0, 0) = -11", "book(" + s + ", 0, 0) = -11",
                "judge(" + s + ", 0) = -11", "copy(" + s + ", 0, " + s + ", 0, 0) = -11", "clerksBy(" + s + ", 0, 0, 0) = -11");
        }
        D.edge("STATE: there is none.", "back() = -3");
    }

    private static void uses() {
        NoZeroWithin x = new NoZeroWithin();
        String uses = "An object is used for at most 512 calls after it has been made";
        D.rows(x, uses, "clerk(2, 0) = 0");
        for (int call = 2; call <= 511; call++) {
            D.due(uses + ": call " + call, x.lend(0, 1, call), call == 2 ? 0 : call - 1);
        }
        D.rows(x, uses, "pay(0, 1, 511) = 2");
    }

    // ---- promises 2 and 3

    private static void count() {
        D.edge("0 CLERKS, 1 BASE, 2 THE YEAR, 3 TEXTS, 4 THE LAW, 5 bytes of THE TAPE.", "clerk(0, 0)", "set(0, 9)", "set(1, -8)",
            "say nought 1;slips 1;costs 1; = 1", "say nought 1;slips 1;costs 1; = 2", "force(1)", "feed(5, 1, 1, 1, 1, 1)",
            "count(0) = 1", "count(1) = 9", "count(2) = -8", "count(3) = 3", "count(4) = 1", "count(5) = 5");
        D.edge("BAD.", "count(-1) = -2", "count(6) = -2", "count(least) = -2", "count(most) = -2");
    }

    private static void set() {
        D.edge("BASE (2 .. 12 figures; 10 at first)", "set(0, 2) = 10", "set(0, 1) = -7", "set(0, 0) = -7", "set(0, -2) = -7",
            "count(1) = 2", "set(0, 12) = 2", "set(0, 13) = -7", "set(0, most) = -7", "set(0, least) = -7", "count(1) = 12",
            "set(0, 3) = 12", "set(0, 11) = 3", "set(0, 11) = 11");
        D.edge("THE YEAR (-999 .. 999, not 0; 1 at first)", "set(1, -999) = 1", "set(1, -1000) = -7", "set(1, least) = -7",
            "count(2) = -999", "set(1, 999) = -999", "set(1, 1000) = -7", "set(1, most) = -7", "count(2) = 999", "set(1, 0) = -7",
            "count(2) = 999", "set(1, -1) = 999", "set(1, 0) = -7", "set(1, 1) = -1");
        D.edge("-5: what; -7: v.", "set(2, 5) = -5", "set(-1, 5) = -5", "set(2, 0) = -5", "set(-1, 5000) = -5", "set(most, 5) = -5",
            "set(least, 5) = -5", "count(1) = 10", "count(2) = 1");
        D.edge("becomes v: what it was: the one stays when the other is set", "set(0, 5)", "count(2) = 1", "set(1, 7)", "count(1) = 5");
    }

    // ---- promise 4

    private static void feed() {
        D.edge("The first n (1 .. 5) of five bytes", "feed(1, 1, 2, 3, 4, 5) = 1", "feed(5, 1, 2, 3, 4, 5) = 6", "feed(0, 1, 2, 3, 4, 5) = -2",
            "feed(6, 1, 2, 3, 4, 5) = -2", "feed(-1, 1, 2, 3, 4, 5) = -2", "feed(most, 1, 2, 3, 4, 5) = -2",
            "feed(least, 1, 2, 3, 4, 5) = -2", "count(5) = 6", "feed(2, 1, 2, 3, 4, 5) = 8", "feed(3, 1, 2, 3, 4, 5) = 11", "feed(4, 1, 2, 3, 4, 5) = 15",
            "count(5) = 15");
        // Only the first n come: what stands behind them would be a FAULT.
        D.edge("The first n (1 .. 5) of five bytes come", "feed(1, 110, 35, 35, 35, 35)", "feed(2, 111, 117, 35, 35, 35)", "feed(3, 103, 104, 116, 35, 35)",
            "feed(4, 32, 55, 59, 32, 35)", "feed(5, 115, 108, 105, 112, 115)", "feed(2, 49, 59, 35, 35, 35)", "feed(5, 99, 111, 115, 116, 115)",
            "feed(2, 49, 59, 35, 35, 35) = 24", "text() = 1");
        D.edge("(0 .. 255 each)", "feed(5, 0, 0, 0, 0, 0) = 5", "feed(5, 255, 255, 255, 255, 255) = 10");
        for (int at = 0; at < 5; at++) {
            for (int wrong : new int[] {-1, 256, Integer.MIN_VALUE, Integer.MAX_VALUE}) {
                int[] b = {118, 118, 118, 118, 118};
                b[at] = wrong;
                String five = Arrays.toString(b).replace("[", "").replace("]", "");
                D.edge("BAD: n, any of the five", "feed(1, " + five + ") = -2", "feed(5, " + five + ") = -2", "count(5) = 0");
            }
        }
        // " v" and then the others: only in their order it is this text.
        NoZeroWithin x = new NoZeroWithin();
        String text = "nought 7;slips 8;costs v;";
        for (int i = 0; i < text.length(); i += 5) {
            D.due("come behind THE TAPE's, one by one: how many it has", x.feed(5, text.charAt(i), text.charAt(i + 1),
                text.charAt(i + 2), text.charAt(i + 3), text.charAt(i + 4)), i + 5);
        }
        D.rows(x, "come behind THE TAPE's, one by one", "text() = 1", "force(1)", "clerk(0, 0)", "asks(0, 0, 0, 0) = 7",
            "asks(1, 0, 0, 0) = 8", "asks(2, 0, 63, 0) = 63");
    }

    /** Calls that feed just this. */
    private static NoZeroWithin fed(String text) {
        NoZeroWithin x = new NoZeroWithin();
        for (int i = 0; i < text.length(); i++) {
            x.feed(1, text.charAt(i), 0, 0, 0, 0);
        }
        return x;
    }

    private static void tape() {
        String room = "THE TAPE (160 bytes at most)";
        String none = "FULL: they have not all room (none comes).";
        D.rows(fed(BLANKS_155), room, "feed(5, 32, 32, 32, 32, 32) = 160", "feed(1, 32, 32, 32, 32, 32) = -4", "count(5) = 160");
        D.rows(fed(BLANKS_155 + " "), none, "feed(5, 32, 32, 32, 32, 32) = -4", "count(5) = 156", "feed(4, 32, 32, 32, 32, 32) = 160");
        D.rows(fed(BLANKS_155 + "   "), none, "feed(3, 32, 32, 32, 32, 32) = -4", "count(5) = 158", "feed(2, 32, 32, 32, 32, 32) = 160");
        D.rows(fed(BLANKS_155 + "    "), none, "feed(2, 32, 32, 32, 32, 32) = -4", "feed(1, 32, 32, 32, 32, 32) = 160",
            "feed(1, 32, 32, 32, 32, 32) = -4", "count(5) = 160");
        D.rows(fed(BLANKS_155 + "     "), "BAD: n, any of the five; FULL", "feed(0, 32, 32, 32, 32, 32) = -2",
            "feed(1, 32, 32, 32, 32, 256) = -2", "feed(5, 32, 32, 32, 32, 32) = -4");
        String good = "nought 7;slips 8;costs 9;";
        NoZeroWithin x = fed(BLANKS_155.substring(0, 159 - good.length()) + good.substring(0, good.length() - 1));
        D.rows(x, none, "count(5) = 158", "feed(3, 35, 35, 35, 35, 35) = -4", "feed(2, 59, 32, 35, 35, 35) = 160", "text() = 1");
    }

    // ---- promise 5

    private static void text() {
        D.edge("-100 less the place of its FAULT", "text() = -100", "say n = -100", "say   n = -102", "say nought 1 x = -109");
        D.rows(fed(BLANKS_155 + "     "), "(the text's size, if it ends too early): the greatest place", "text() = -260", "count(5) = 0");
        D.rows(fed(BLANKS_155 + "    #"), "the place of the first byte: the last byte", "text() = -259", "count(5) = 0");
        String good = "nought 7;slips 8;costs 9;";
        D.rows(fed(BLANKS_155.substring(20) + good), "a text of all 160 bytes", "count(5) = 160", "text() = 1", "count(5) = 0", "count(3) = 2");
        D.rows(fed(good + BLANKS_155.substring(20)), "a text of all 160 bytes, blanks behind", "count(5) = 160", "text() = 1", "count(5) = 0");
        D.edge("which is empty then (by a FAULT, too)", "feed(5, 118, 118, 118, 118, 118) = 5", "text() = -100", "count(5) = 0",
            "say nought 1;slips 2;costs 3; = 1", "count(5) = 0", "text() = -100", "count(3) = 2");
        D.edge("is a TEXT: THE LAW is as it was", "say nought 5;slips 2;costs 3; = 1", "count(4) = 0", "clerk(0, 0)", "asks(0, 0, 0, 0) = 1");
    }

    private static void texts() {
        NoZeroWithin x = new NoZeroWithin();
        for (int t = 1; t <= 5; t++) {
            D.rows(x, "TEXTS are numbered from 0 on, 6 at most", "say nought " + t + ";slips 0;costs 0; = " + t, "count(3) = " + (t + 1));
        }
        D.rows(x, "FULL (ahead of the FAULT; then THE TAPE stays).", "text() = -4", "feed(3, 35, 35, 35, 35, 35) = 3", "text() = -4",
            "count(5) = 3", "count(3) = 6", "feed(1, 35, 35, 35, 35, 35) = 4", "text() = -4", "count(5) = 4");
        D.rows(x, "TEXTS are what they were", "clerk(0, 0)");
        for (int t = 5; t >= 0; t--) {
            D.rows(x, "TEXTS are what they were", "force(" + t + ")", "asks(0, 0, 0, 0) = " + Math.max(1, t));
        }
        NoZeroWithin y = new NoZeroWithin();
        for (int t = 1; t <= 4; t++) {
            Due.say(y, "nought 1;slips 0;costs 0;");
        }
        D.rows(y, "a FAULT is no TEXT: there is room still", "say nought; = -106", "count(3) = 5", "say nought 1;slips 0;costs 0; = 5",
            "say nought 1;slips 0;costs 0; = -4", "count(5) = 25");
    }

    // ---- promises 6 and 7

    private static void force() {
        D.edge("A TEXT is THE LAW: which was. BAD.", "force(0) = 0", "force(1) = -2", "force(-1) = -2", "force(most) = -2", "force(least) = -2",
            "say nought 7;slips 0;costs 0; = 1", "force(1) = 0", "force(2) = -2", "count(4) = 1", "force(1) = 1", "force(0) = 1", "count(4) = 0");
        NoZeroWithin x = new NoZeroWithin();
        for (int t = 1; t <= 5; t++) {
            Due.say(x, "nought 1;slips 0;costs 0;");
        }
        D.rows(x, "6 at most", "force(5) = 0", "force(6) = -2", "count(4) = 5");
    }

    private static void asks() {
        String said = "What part 0 nought, 1 slips, 2 costs says of a CLERK, v, off (0 .. 99999 each). BAD.";
        D.edge(said, "clerk(0, 0)", "asks(0, 0, 0, 0) = 1", "asks(1, 0, 0, 0) = 3", "asks(2, 0, 0, 0) = 0", "asks(-1, 0, 0, 0) = -2",
            "asks(3, 0, 0, 0) = -2", "asks(most, 0, 0, 0) = -2", "asks(0, -1, 0, 0) = -2", "asks(0, 1, 0, 0) = -2", "asks(0, 5, 0, 0) = -2",
            "asks(0, 0, -1, 0) = -2", "asks(0, 0, 99999, 0) = 1", "asks(0, 0, 100000, 0) = -2", "asks(0, 0, 0, -1) = -2",
            "asks(0, 0, 0, 99999) = 1", "asks(0, 0, 0, 100000) = -2", "asks(2, 0, 0, -1) = -2", "asks(2, 0, 0, 99999) = 99999",
            "asks(2, 0, 0, 100000) = -2", "asks(2, 0, 99999, 1) = 1", "asks(2, 0, 100000, 1) = -2");
        D.edge(said + " Of five", "clerk(0, 0)", "clerk(0, 0)", "clerk(0, 0)", "clerk(0, 0)", "asks(0, 4, 0, 0) = -2", "clerk(0, 0)",
            "asks(0, 4, 0, 0) = 1", "asks(0, 5, 0, 0) = -2");
    }

    /** What the three parts say, when each of them is e, of clerk 0 and of v. */
    private static void says(String sentence, String e, int v, long nought, long slips, long costs) {
        D.edge(sentence + " " + e, "say nought " + e + ";slips " + e + ";costs " + e + "; = 1", "force(1)", "clerk(0, 0)",
            "asks(0, 0, " + v + ", 0) = " + nought, "asks(1, 0, " + v + ", 0) = " + slips, "asks(2, 0, " + v + ", 0) = " + costs);
    }

    private static void bounds() {
        String bound = "(nought, costs 0 .. 99999, slips 0 .. 100, else the bound)";
        says(bound, "v", 0, 0, 0, 0);
        says(bound, "v", 1, 1, 1, 1);
        says(bound, "v", 99, 99, 99, 99);
        says(bound, "v", 100, 100, 100, 100);
        says(bound, "v", 101, 101, 100, 101);
        says(bound, "v-1", 0, 0, 0, 0);
        says(bound, "v-2", 1, 0, 0, 0);
        says(bound, "v-1", 99999, 99998, 100, 99998);
        says(bound, "v", 99999, 99999, 100, 99999);
        says(bound, "v+1", 99999, 99999, 100, 99999);
        // Twice 32768 times itself is 2147483648, which is -2147483648; less 1 it is 2147483647.
        says(bound, "v*(v-1)", 46340, 99999, 100, 99999);
        says(bound, "v*v+v*v-1", 32768, 99999, 100, 99999);
        says(bound, "v*v+v*v", 32768, 0, 0, 0);
    }

    private static void named(String name, int part, String want) {
        String e = name.equals("year") ? "0-year" : name;
        String text = "say nought " + (part == 0 ? e : "0") + ";slips " + (part == 1 ? e : "0") + ";costs " + (part == 2 ? e : "0") + "; = 1";
        D.edge("NAMES: " + name + " in part " + part, text, "force(1)", "set(0, 12)", "set(1, -99)", "clerk(0, 4)", "clerk(0, 9)",
            "asks(" + part + ", 1, 77, 55) = " + want);
    }

    private static void names() {
        for (int part = 0; part < 3; part++) {
            named("more", part, "9");
            named("clerk", part, "1");
            named("v", part, "77");
            named("base", part, "12");
            named("year", part, "99");
            named("off", part, part == 2 ? "55" : "0");
        }
        D.edge("year: THE YEAR (below 0, too)", "say nought year;slips year<0;costs year+9; = 1", "force(1)", "clerk(0, 0)",
            "asks(0, 0, 0, 0) = 1", "set(1, 999)", "asks(0, 0, 0, 0) = 999", "asks(1, 0, 0, 0) = 0", "set(1, -1)", "asks(0, 0, 0, 0) = 0",
            "asks(1, 0, 0, 0) = 1", "asks(2, 0, 0, 0) = 8", "set(1, -999)", "asks(2, 0, 0, 0) = 0");
        D.edge("clerk: his number; more: MORE", "say nought clerk;slips more;costs clerk*10+more; = 1", "force(1)", "clerk(0, 0)", "clerk(0, 0)",
            "clerk(0, 0)", "clerk(0, 0)", "clerk(0, 9)", "asks(0, 0, 0, 0) = 0", "asks(0, 4, 0, 0) = 4", "asks(1, 4, 0, 0) = 9",
            "asks(2, 4, 0, 0) = 49", "asks(2, 0, 0, 0) = 0");
    }
}
