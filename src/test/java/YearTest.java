/** Promises 27 to 29: years without the one that is none. */
public final class YearTest {
    private static final Due D = new Due();

    public static void main(String[] args) {
        spans();
        behind();
        alike();
        alikeRefused();
        D.end();
    }

    private static void spans() {
        NoZeroWithin x = new NoZeroWithin();
        D.due("over the absence", x.span(-1, 1), 1);
        D.due("back over it", x.span(1, -1), -1);
        D.due("span(-3, 4)", x.span(-3, 4), 6);
        D.due("span(4, -3)", x.span(4, -3), -6);
        D.due("span(2, 9)", x.span(2, 9), 7);
        D.due("span(-9, -2)", x.span(-9, -2), 7);
        D.due("span(5, 5)", x.span(5, 5), 0);
        D.due("span(-999, 999)", x.span(-999, 999), 1997);
        for (int y : new int[] {0, -1000, 1000, Integer.MIN_VALUE, Integer.MAX_VALUE}) {
            D.due("span from " + y, x.span(y, 1), -100000);
            D.due("span to " + y, x.span(1, y), -100000);
        }
    }

    private static void behind() {
        NoZeroWithin x = new NoZeroWithin();
        D.due("behind(-1, 1)", x.behind(-1, 1), 1);
        D.due("behind(1, -1)", x.behind(1, -1), -1);
        D.due("behind(-3, 6)", x.behind(-3, 6), 4);
        D.due("behind(4, -6)", x.behind(4, -6), -3);
        D.due("behind(7, 0)", x.behind(7, 0), 7);
        D.due("behind(-7, 0)", x.behind(-7, 0), -7);
        D.due("behind(-999, 1997)", x.behind(-999, 1997), 999);
        D.due("behind(999, -1997)", x.behind(999, -1997), -999);
        D.due("behind(-999, 1998)", x.behind(-999, 1998), -100001);
        D.due("behind(-999, -1)", x.behind(-999, -1), -100001);
        D.due("behind(999, 1)", x.behind(999, 1), -100001);
        D.due("behind(1, 3000)", x.behind(1, 3000), -100001);
        D.due("behind(1, -3000)", x.behind(1, -3000), -100001);
        // The edges of so many: beyond them there is none such, wherever it would have led.
        for (int y : new int[] {1, -1, 999, -999}) {
            D.due("3000 behind " + y, x.behind(y, 3000), -100001);
            D.due("-3000 behind " + y, x.behind(y, -3000), -100001);
            for (int years : new int[] {3001, -3001, 4999, -4999, Integer.MAX_VALUE, Integer.MIN_VALUE}) {
                D.due(years + " behind " + y, x.behind(y, years), -100000);
            }
        }
        for (int y : new int[] {0, -1000, 1000}) {
            D.due("behind " + y, x.behind(y, 5), -100000);
            D.due("too many behind " + y, x.behind(y, 5000), -100000);
        }
    }

    private static void alike() {
        NoZeroWithin x = new NoZeroWithin();
        x.clerk(0, 0);
        x.clerk(1, 0);
        x.clerk(2, 0);
        D.due("31 is the 31st", x.alike(0, 31, 0), 3);
        D.due("30 years: to 30", x.alike(0, 30, 0), 2);
        D.due("the first", x.alike(0, 11, 1), 11);
        D.due("none within 10", x.alike(0, 10, 0), 0);
        D.due("none within 10, the first", x.alike(0, 10, 1), -100001);
        D.due("one year", x.alike(0, 1, 0), 0);
        D.due("200 years", x.alike(0, 200, 0), 19);
        // Turned, the greatest figure comes last: 11 .. 20 (20 is 1 and ten), 111 .. 200.
        D.due("turned, to 25", x.alike(1, 25, 0), 10);
        D.due("turned, the first", x.alike(1, 25, 1), 11);
        // A KINDLY writes 11 of 10, too.
        D.due("kindly, to 11", x.alike(2, 11, 0), 2);
        D.due("kindly, the first", x.alike(2, 11, 1), 10);
        x.set(1, -12);
        // -11 .. -1, 1 .. 13: with 2: -2, 2, 12.
        D.due("over the absence", x.alike(0, 25, 0), 3);
        D.due("over the absence, the first", x.alike(0, 25, 1), -2);
        x.set(1, 985);
        D.due("995 alone", x.alike(0, 200, 0), 1);
        D.due("995", x.alike(0, 200, 1), 995);
        x.set(1, 990);
        D.due("to 999 at most", x.alike(0, 200, 0), 0);
        D.due("to 999 at most, the first", x.alike(0, 200, 1), -100001);
        x.set(1, 989);
        D.due("999 itself", x.alike(0, 200, 1), 999);
        x.set(1, 999);
        D.due("behind 999", x.alike(0, 200, 0), 0);
        x.set(0, 3);
        x.set(1, 1);
        D.due("by three", x.alike(0, 7, 0), 2);
        D.due("by three, the first", x.alike(0, 7, 1), 4);
    }

    private static void alikeRefused() {
        NoZeroWithin x = new NoZeroWithin();
        x.clerk(0, 0);
        D.due("no clerk", x.alike(1, 0, 5), -100005);
        D.due("no clerk -1", x.alike(-1, 1, 0), -100005);
        D.due("years 0", x.alike(0, 0, 0), -100007);
        D.due("years 201", x.alike(0, 201, 0), -100007);
        D.due("what 2", x.alike(0, 1, 2), -100007);
        D.due("what -1", x.alike(0, 1, -1), -100007);
    }
}
