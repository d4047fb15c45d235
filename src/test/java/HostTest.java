/** Promises 39 to 43: the host. */
public final class HostTest {
    private static final Due D = new Due();

    public static void main(String[] args) {
        sheets();
        cells();
        copies();
        clerksBy();
        takenClerks();
        takenFolk();
        D.end();
    }

    /** What stands in a sheet of numbers from 0 to 99999: OURS of a book of that one alone. */
    private static void holds(NoZeroWithin x, int s, int sort, int... numbers) {
        int spare = 3;
        for (int i = 0; i < numbers.length; i++) {
            x.sheet(spare, sort, 1);
            D.due("copy of one", x.copy(s, i, spare, 0, 1), 1);
            D.due("number " + i + " of sheet " + s, x.book(spare, 0, 1), numbers[i]);
        }
        D.due("no more", x.cell(s, numbers.length, 0), -12);
    }

    private static void sheets() {
        NoZeroWithin x = new NoZeroWithin();
        x.clerk(0, 0);
        for (int s : new int[] {-1, 4}) {
            D.due("no sheet " + s, x.sheet(s, 0, -1), -2);
        }
        D.due("sort 3", x.sheet(0, 3, -1), -2);
        D.due("sort -2", x.sheet(0, -2, -1), -2);
        D.due("n 41", x.sheet(0, 2, 41), -2);
        D.due("n -1", x.sheet(0, 2, -1), -14);
        D.due("it is missing still", x.cell(0, 0, 0), -11);
        D.due("n 40", x.sheet(0, 0, 40), 1);
        D.due("the last", x.cell(0, 39, 1), 1);
        D.due("behind the last", x.cell(0, 40, 1), -12);
        D.due("anew", x.sheet(0, 0, 3), 1);
        holds(x, 0, 0, 0, 0, 0);
        x.cell(0, 1, 7);
        D.due("n 41, refused", x.sheet(0, 0, 41), -2);
        holds(x, 0, 0, 0, 7, 0);
        x.sheet(0, 0, 3);
        holds(x, 0, 0, 0, 0, 0);
        D.due("missing, any n", x.sheet(0, -1, 99), 1);
        D.due("missing", x.cell(0, 0, 0), -11);
        D.due("missing again", x.sheet(0, -1, -99), 1);
        D.due("empty", x.sheet(0, 2, 0), 1);
        D.due("nothing in it", x.cell(0, 0, 0), -12);
    }

    private static void cells() {
        NoZeroWithin x = new NoZeroWithin();
        x.clerk(0, 0);
        D.due("no sheet 4", x.cell(4, -1, 0), -2);
        D.due("no sheet -1", x.cell(-1, -1, 0), -2);
        D.due("missing", x.cell(0, -1, 0), -11);
        x.sheet(0, 0, 3);
        D.due("place -1", x.cell(0, -1, 0), -12);
        D.due("place 3", x.cell(0, 3, 0), -12);
        D.due("place greatest", x.cell(0, Integer.MAX_VALUE, 0), -12);
        x.cell(0, 0, 256 + 5);
        x.cell(0, 1, 127);
        x.cell(0, 2, -256);
        holds(x, 0, 0, 5, 127, 0);
        x.cell(0, 2, 128);
        D.due("a byte below 0", x.book(0, 0, 1), -2);
        x.sheet(1, 1, 3);
        x.cell(1, 0, 65536 + 300);
        x.cell(1, 1, 32767);
        x.cell(1, 2, -65536 + 9);
        holds(x, 1, 1, 300, 32767, 9);
        x.cell(1, 2, 32768);
        D.due("a short below 0", x.book(1, 0, 1), -2);
        x.sheet(2, 2, 2);
        x.cell(2, 0, 99999);
        x.cell(2, 1, 65536);
        holds(x, 2, 2, 99999, 65536);
        // A byte of -1 is -1: as the second number of a row it differs from all plain ones, and 255 would, too.
        Due.fill(x, 0, 0, 10, -1);
        D.due("a row with -1", x.judge(0, 0), 0);
    }

    private static void copies() {
        NoZeroWithin x = new NoZeroWithin();
        x.clerk(0, 0);
        Due.fill(x, 0, 2, 1, 2, 3, 4, 5);
        Due.fill(x, 1, 2, 6, 7, 8);
        D.due("to another", x.copy(0, 1, 1, 0, 2), 2);
        holds(x, 1, 2, 2, 3, 8);
        D.due("up its own", x.copy(0, 0, 0, 1, 4), 4);
        holds(x, 0, 2, 1, 1, 2, 3, 4);
        D.due("down its own", x.copy(0, 1, 0, 0, 4), 4);
        holds(x, 0, 2, 1, 2, 3, 4, 4);
        D.due("none", x.copy(0, 5, 1, 3, 0), 0);
        D.due("none, outside", x.copy(0, 6, 1, 3, 0), -12);
        D.due("none, outside there", x.copy(0, 5, 1, 4, 0), -12);
        int[][] outside = {{-1, 0, 1}, {0, -1, 1}, {0, 0, -1}, {0, 0, 4}, {0, 1, 3}, {3, 0, 3}, {0, 0, 6},
            {Integer.MAX_VALUE, 0, 1}, {0, Integer.MAX_VALUE, 1}, {1, 0, Integer.MAX_VALUE}, {0, 0, Integer.MIN_VALUE}};
        for (int[] of : outside) {
            D.due("outside", x.copy(0, of[0], 1, of[1], of[2]), -12);
        }
        holds(x, 1, 2, 2, 3, 8);
        x.sheet(2, 1, 3);
        D.due("unlike sorts", x.copy(0, -1, 2, 0, 1), -13);
        D.due("unlike sorts, the other way", x.copy(2, 0, 0, -1, 1), -13);
        x.sheet(2, -1, 0);
        D.due("missing there", x.copy(0, -1, 2, -1, -1), -11);
        D.due("missing here", x.copy(2, -1, 0, -1, -1), -11);
        D.due("no sheet here", x.copy(4, 0, 2, 0, 1), -2);
        D.due("no sheet there", x.copy(2, 0, -1, 0, 1), -2);
    }

    private static void clerksBy() {
        NoZeroWithin x = new NoZeroWithin();
        Due.fill(x, 0, 1, 99, 1, 2, 6, 0, 3, 4, 5);
        D.due("no sheet 4", x.clerksBy(4, 9, -1, 9), -2);
        D.due("no sheet -1", x.clerksBy(-1, 1, 0, 1), -2);
        D.due("sort 3", x.clerksBy(0, 3, 0, 1), -2);
        D.due("sort -1", x.clerksBy(0, -1, 0, 1), -2);
        D.due("n 6", x.clerksBy(0, 1, 0, 6), -2);
        D.due("n -1", x.clerksBy(0, 1, 0, -1), -2);
        D.due("missing", x.clerksBy(1, 1, -1, 1), -11);
        D.due("another sort", x.clerksBy(0, 2, -1, 1), -13);
        D.due("place -1", x.clerksBy(0, 1, -1, 1), -12);
        D.due("place 8", x.clerksBy(0, 1, 8, 1), -12);
        D.due("place greatest", x.clerksBy(0, 1, Integer.MAX_VALUE, 1), -12);
        D.due("nobody came", x.count(0), 0);
        D.due("none", x.clerksBy(0, 1, 0, 0), 0);
        // 1 2, 6 0 (no such kind), 3 4: two came.
        D.due("two of three", x.clerksBy(0, 1, 1, 3), 2);
        D.due("the first's kind", x.told(0, 0), 1);
        D.due("the first's MORE", x.told(0, 1), 2);
        D.due("the second's kind", x.told(1, 0), 3);
        D.due("the second's MORE", x.told(1, 1), 4);
        D.due("over the end", x.clerksBy(0, 1, 5, 2), -12);
        D.due("what stood ahead came", x.count(0), 3);
        D.due("half a pair", x.clerksBy(0, 1, 7, 1), -12);
        Due.fill(x, 1, 0, 0, 0, 0, 1, 0, 2, 0, 3, 0, 10);
        D.due("two of five, then full", x.clerksBy(1, 0, 0, 5), 2);
        D.due("five", x.count(0), 5);
        D.due("none of two", x.clerksBy(1, 0, 0, 2), 0);
        D.due("full, and over the end", x.clerksBy(1, 0, 8, 2), -12);
    }

    private static void takenClerks() {
        boolean[][] isOne = {
            {true, false, false, false, false, false},
            {true, true, false, false, false, false},
            {true, false, true, false, false, false},
            {true, true, false, true, false, false},
            {true, false, true, false, true, false},
            {true, false, false, false, false, true}};
        for (int kind = 0; kind < 6; kind++) {
            NoZeroWithin x = new NoZeroWithin();
            x.clerk(0, 0);
            x.clerk(kind, 3);
            for (int as = 0; as < 6; as++) {
                D.due("a " + kind + " taken for a " + as, x.taken(1, as), isOne[kind][as] ? 1 : -13);
            }
            D.due("a clerk taken for one of folk", x.taken(1, 6), -13);
            D.due("nothing at 2", x.taken(2, 0), -11);
            D.due("nothing at 4", x.taken(4, 6), -11);
        }
    }

    private static void takenFolk() {
        NoZeroWithin x = new NoZeroWithin();
        D.due("kind 7", x.taken(-1, 7), -2);
        D.due("kind -1", x.taken(-1, -1), -2);
        D.due("place -1", x.taken(-1, 0), -12);
        D.due("place 11", x.taken(11, 0), -12);
        D.due("nothing at 10", x.taken(10, 6), -11);
        D.due("nothing at 0", x.taken(0, 0), -11);
        x.lend(5, 0, 9999);
        x.lend(5, 4, 9999);
        x.lend(0, 1, 1);
        D.due("all together", x.taken(10, 6), 19998);
        D.due("one of folk", x.taken(5, 6), 1);
        D.due("who is owed only", x.taken(6, 6), -11);
        D.due("who is owed only, as a clerk", x.taken(6, 0), -11);
        for (int kind = 0; kind < 6; kind++) {
            D.due("taken for a clerk", x.taken(10, kind), -13);
        }
    }
}
