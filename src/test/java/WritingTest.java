/** Promises 8 to 13: clerks of kinds, what they write, what is read of it. */
public final class WritingTest {
    private static final Due D = new Due();

    public static void main(String[] args) {
        coming();
        telling();
        writing();
        making();
        reading();
        adding();
        refusing();
        D.end();
    }

    private static void coming() {
        NoZeroWithin x = new NoZeroWithin();
        D.due("clerk(-1, 0)", x.clerk(-1, 0), -2);
        D.due("clerk(6, 0)", x.clerk(6, 0), -2);
        D.due("clerk(0, -1)", x.clerk(0, -1), -2);
        D.due("clerk(0, 10)", x.clerk(0, 10), -2);
        for (int c = 0; c < 5; c++) {
            D.due("clerk " + c, x.clerk(c + 1, 9 - c), c);
            D.due("count(0)", x.count(0), c + 1);
        }
        D.due("a sixth", x.clerk(0, 0), -4);
        D.due("BAD ahead of FULL", x.clerk(0, 10), -2);
        D.due("count(0)", x.count(0), 5);
    }

    private static void telling() {
        int[][] due = {
            {0, 9, 10, 0}, {1, 9, 10, 1}, {2, 9, 10, 0}, {3, 9, 7, 1}, {4, 9, 10, 0}, {5, 9, 9, 0}};
        for (int[] row : due) {
            NoZeroWithin x = new NoZeroWithin();
            x.clerk(row[0], row[1]);
            for (int what = 0; what < 4; what++) {
                D.due("told of kind " + row[0], x.told(0, what), row[what]);
            }
        }
        int[] shortFigures = {10, 10, 10, 9, 9, 9, 8, 8, 8, 7};
        for (int more = 0; more < 10; more++) {
            NoZeroWithin x = new NoZeroWithin();
            x.clerk(3, more);
            D.due("figures of a SHORT, MORE " + more, x.told(0, 2), shortFigures[more]);
        }
        NoZeroWithin x = new NoZeroWithin();
        x.clerk(3, 9);
        x.clerk(5, 0);
        x.clerk(0, 0);
        x.set(0, 5);
        D.due("SHORT of base 5", x.told(0, 2), 2);
        D.due("STRANGER of base 5", x.told(1, 2), 4);
        x.set(0, 4);
        D.due("SHORT of base 4", x.told(0, 2), 2);
        x.set(0, 2);
        D.due("SHORT of base 2", x.told(0, 2), 2);
        D.due("STRANGER of base 2", x.told(1, 2), 2);
        D.due("CLERK of base 2", x.told(2, 2), 2);
        x.set(0, 3);
        D.due("STRANGER of base 3", x.told(1, 2), 2);
        D.due("told(0, 4)", x.told(0, 4), -7);
        D.due("told(0, -1)", x.told(0, -1), -7);
        D.due("told(3, 4)", x.told(3, 4), -5);
        D.due("told(-1, 0)", x.told(-1, 0), -5);
    }

    /** A clerk's figures of v, from the first written, and no more. */
    private static void writes(NoZeroWithin x, int c, int v, int... figures) {
        String call = "figure(" + c + ", " + v + ", ";
        D.due(call + "0)", x.figure(c, v, 0), figures.length);
        for (int i = 0; i < figures.length; i++) {
            D.due(call + (i + 1) + ")", x.figure(c, v, i + 1), figures[i]);
        }
        D.due(call + (figures.length + 1) + ")", x.figure(c, v, figures.length + 1), -1);
        D.due(call + "40)", x.figure(c, v, 40), -1);
    }

    private static void writing() {
        NoZeroWithin x = new NoZeroWithin();
        x.clerk(0, 0);
        x.clerk(1, 0);
        writes(x, 0, 10, 10);
        writes(x, 0, 20, 1, 10);
        writes(x, 0, 110, 10, 10);
        writes(x, 0, 111, 1, 1, 1);
        writes(x, 0, 99999, 9, 9, 9, 9, 9);
        writes(x, 1, 123, 3, 2, 1);
        writes(x, 1, 20, 10, 1);
        x.set(0, 2);
        writes(x, 0, 1, 1);
        writes(x, 0, 2, 2);
        writes(x, 0, 3, 1, 1);
        writes(x, 0, 4, 1, 2);
        writes(x, 0, 6, 2, 2);
        writes(x, 0, 7, 1, 1, 1);
        writes(x, 1, 4, 2, 1);
        writes(x, 0, 65534, 2, 2, 2, 2, 2, 2, 2, 2, 2, 2, 2, 2, 2, 2, 2);
        x.set(0, 12);
        writes(x, 0, 12, 12);
        writes(x, 0, 13, 1, 1);
        writes(x, 0, 156, 12, 12);
    }

    private static void making() {
        NoZeroWithin x = new NoZeroWithin();
        x.clerk(5, 3);
        x.clerk(2, 3);
        x.clerk(4, 3);
        x.clerk(3, 3);
        x.clerk(0, 3);
        writes(x, 0, 0);
        writes(x, 0, 10, 1, 1);
        writes(x, 1, 0, 2);
        writes(x, 1, 10, 1, 1);
        writes(x, 1, 9, 9);
        writes(x, 2, 0, 5);
        writes(x, 2, 9, 1, 2);
        writes(x, 2, 10, 1, 4);
        writes(x, 3, 0, 1);
        writes(x, 3, 10, 1, 1);
        writes(x, 3, 11, 2, 1);
        x.set(0, 4);
        // Ten divides, whatever BASE is.
        D.due("KINDLY makes of 4", x.adds(1, 4, 4), 8);
        D.due("KINDLY makes of 20", x.adds(1, 20, 4), 25);
        x.set(0, 10);
        x.force(Due.say(x, "nought 40*clerk+more+v+off+base+year;slips 3;costs off;"));
        D.due("nought of clerk 4", x.plain(4, 0), 160 + 3 + 10 + 1);
        D.due("nought of a KINDLY", x.plain(1, 0), 40 + 3 + 10 + 1 + 1);
        D.due("nought of a GENEROUS", x.plain(2, 0), 80 + 3 + 10 + 1 + 1 + 3);
        writes(x, 0, 0);
        x.force(Due.say(x, "nought 0;slips 3;costs off;"));
        writes(x, 4, 0);
        writes(x, 1, 0, 1);
        D.due("plain of nothing", x.plain(4, 0), 0);
        D.due("reads of nothing", x.reads(404, 0), 0);
        x.force(Due.say(x, "nought 9999*11;slips 3;costs off;"));
        D.due("nought 99999 at most", x.plain(4, 0), 99999);
        D.due("and more", x.plain(2, 0), 100003);
    }

    private static void reading() {
        NoZeroWithin x = new NoZeroWithin();
        x.clerk(0, 0);
        x.clerk(1, 0);
        x.clerk(3, 9);
        x.clerk(5, 0);
        // 123 is 1 2 3, turned 3 2 1, by seven 2 3 4, turned 4 3 2, by nine 1 4 6.
        D.due("he himself", x.reads(0, 123), 123);
        D.due("turned himself", x.reads(101, 123), 123);
        D.due("short himself", x.reads(202, 123), 123);
        D.due("stranger himself", x.reads(303, 123), 123);
        D.due("turned of straight", x.reads(100, 123), 321);
        D.due("straight of turned", x.reads(1, 123), 321);
        D.due("straight of short", x.reads(2, 123), 432);
        D.due("turned of short", x.reads(102, 123), 234);
        D.due("short of straight", x.reads(200, 123), 3 * 49 + 2 * 7 + 1);
        D.due("stranger of straight", x.reads(300, 123), 81 + 2 * 9 + 3);
        D.due("straight of stranger", x.reads(3, 123), 146);
        D.due("plain of turned", x.plain(1, 123), 321);
        D.due("plain of short", x.plain(2, 123), 432);
        D.due("plain of stranger", x.plain(3, 123), 146);
        x.set(0, 2);
        D.due("base 2", x.plain(0, 99999), 99999);
        x.set(0, 5);
        // By two figures, 65534 is fifteen times 2.
        long twos = 0;
        for (int i = 0; i < 15; i++) {
            twos = 5 * twos + 2;
        }
        D.due("short of base 5", x.plain(2, 65534), twos);
    }

    private static void adding() {
        NoZeroWithin x = new NoZeroWithin();
        x.clerk(0, 0);
        x.clerk(2, 0);
        x.clerk(4, 9);
        x.clerk(5, 0);
        D.due("adds(0, 3, 4)", x.adds(0, 3, 4), 7);
        D.due("adds(0, 0, 0)", x.adds(0, 0, 0), 2);
        D.due("adds(1, 0, 10)", x.adds(1, 0, 10), 13);
        D.due("adds(2, 0, 1)", x.adds(2, 0, 1), 21);
        D.due("adds(3, 0, 1)", x.adds(3, 0, 1), 1);
        D.due("adds(2, 99999, 99999)", x.adds(2, 99999, 99999), 200016);
    }

    private static void refusing() {
        NoZeroWithin x = new NoZeroWithin();
        x.clerk(0, 0);
        x.clerk(0, 0);
        for (int c : new int[] {-1, 2, 5, Integer.MAX_VALUE, Integer.MIN_VALUE}) {
            D.due("figure, no clerk", x.figure(c, -1, -1), -5);
            D.due("plain, no clerk", x.plain(c, -1), -5);
            D.due("adds, no clerk", x.adds(c, -1, -1), -5);
        }
        for (int pair : new int[] {2, 200, 1000, 100000, -1, -100, -101, 10100, Integer.MIN_VALUE, Integer.MAX_VALUE}) {
            D.due("reads, no clerk " + pair, x.reads(pair, -1), -5);
        }
        for (int v : new int[] {-1, 100000, Integer.MAX_VALUE, Integer.MIN_VALUE}) {
            D.due("figure, v", x.figure(0, v, 0), -7);
            D.due("reads, v", x.reads(101, v), -7);
            D.due("plain, v", x.plain(0, v), -7);
            D.due("adds, a", x.adds(0, v, 0), -7);
            D.due("adds, b", x.adds(0, 0, v), -7);
        }
        D.due("figure 41", x.figure(0, 0, 41), -7);
        D.due("figure -1", x.figure(0, 0, -1), -7);
    }
}
