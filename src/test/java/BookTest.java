/** Promises 14 to 20: sums, books. */
public final class BookTest {
    private static final Due D = new Due();

    public static void main(String[] args) {
        apart();
        books();
        costs();
        who();
        smuggled();
        slip();
        sure();
        shortest();
        refusingBooks();
        D.end();
    }

    private static void apart(int kind, int more, int above, int first, int far) {
        NoZeroWithin x = new NoZeroWithin();
        x.clerk(kind, more);
        D.due("kind " + kind + ", apart(0, " + above + ", 0)", x.apart(0, above, 0), first);
        D.due("kind " + kind + ", apart(0, " + above + ", 1)", x.apart(0, above, 1), far);
    }

    private static void apart() {
        apart(0, 0, 0, 0, 2);
        apart(0, 0, 1, 0, 1);
        apart(0, 0, 999, 0, 1);
        apart(2, 0, 10, 0, 3);
        apart(2, 0, 0, 0, 4);
        apart(4, 5, 3, 0, 12);
        apart(5, 5, 0, -1, 0);
        apart(5, 5, 999, -1, 0);
        NoZeroWithin x = new NoZeroWithin();
        x.clerk(0, 0);
        x.clerk(2, 0);
        x.force(Due.say(x, "nought 0;slips 0;costs 0;"));
        D.due("nought 0", x.apart(0, 5, 0), -1);
        D.due("nought 0, far", x.apart(0, 5, 1), 0);
        D.due("kindly, nought 0", x.apart(1, 5, 0), 0);
        D.due("kindly, nought 0, far", x.apart(1, 5, 1), 1);
        D.due("kindly, twice", x.apart(1, 20, 1), 2);
        x.force(0);
        D.due("no clerk", x.apart(2, -1, 2), -5);
        D.due("more -1", x.apart(0, -1, 0), -7);
        D.due("more 1000", x.apart(0, 1000, 0), -7);
        D.due("what 2", x.apart(0, 0, 2), -7);
        D.due("what -1", x.apart(0, 0, -1), -7);
    }

    private static void books() {
        NoZeroWithin x = new NoZeroWithin();
        x.clerk(2, 0);
        x.clerk(4, 2);
        x.clerk(5, 0);
        Due.fill(x, 0, 2, 0, 10, 7, 99999);
        // A KINDLY: 2, 11, 7, 99999; a GENEROUS: 4, 13, 9, 100001; a STRANGER: as they are.
        long[][] due = {{100019, 100016, 3, 3}, {100027, 100016, 11, 11}, {100016, 100016, 0, 0}};
        for (int c = 0; c < 3; c++) {
            for (int what = 0; what < 4; what++) {
                D.due("book(0, " + c + ", " + what + ")", x.book(0, c, what), due[c][what]);
            }
        }
        x.sheet(1, 0, 0);
        for (int what = 0; what < 4; what++) {
            D.due("an empty book", x.book(1, 0, what), 0);
        }
    }

    private static void costs() {
        NoZeroWithin x = new NoZeroWithin();
        x.clerk(0, 6);
        x.clerk(0, 6);
        x.force(Due.say(x, "nought 9999*10;slips 0;costs (v<9999*10+9)*500*100+(off<9999*10+9)*100+(v=9999*10+9)*7+(off=9999*10+9)*3+clerk;"));
        Due.fill(x, 0, 2, 99999, 1);
        D.due("v at most", x.book(0, 1, 3), 100 + 7 + 1);
        Due.fill(x, 0, 2, 0, 0, 5);
        D.due("off at most", x.book(0, 0, 3), 50000 + 3);
        D.due("far", x.book(0, 0, 2), 2 * 99990);
        x.force(Due.say(x, "nought 8;slips 0;costs v*10+off;"));
        Due.fill(x, 0, 2, 0, 20, 0);
        D.due("v is OURS, off is how far", x.book(0, 0, 3), 216);
    }

    private static void who() {
        NoZeroWithin x = new NoZeroWithin();
        x.sheet(0, 2, 2);
        D.due("no clerks", x.who(0, 0), -1);
        D.due("no clerks, how far", x.who(0, 1), -1);
        D.due("no clerks, what", x.who(0, 2), -7);
        x.clerk(4, 1);
        x.clerk(2, 0);
        x.clerk(0, 0);
        x.clerk(1, 0);
        Due.fill(x, 0, 2, 10, 0);
        // 4 (11+1, 1+1+1), 3 (11, 2), 1, 1.
        D.due("who", x.who(0, 0), 2);
        D.due("who, how far", x.who(0, 1), 1);
        x.clerk(5, 0);
        D.due("who, the stranger", x.who(0, 0), 4);
        D.due("who, not far at all", x.who(0, 1), 0);
        Due.fill(x, 0, 2, 3, 4);
        D.due("of like ones the first", x.who(0, 0), 1);
        D.due("what -1", x.who(0, -1), -7);
        NoZeroWithin alone = new NoZeroWithin();
        alone.clerk(2, 0);
        Due.fill(alone, 0, 2, 0, 0);
        D.due("one alone", alone.who(0, 0), 0);
        D.due("one alone, how far", alone.who(0, 1), 4);
    }

    private static void smuggled() {
        NoZeroWithin x = new NoZeroWithin();
        x.clerk(2, 0);
        x.clerk(0, 0);
        Due.fill(x, 0, 2, 10, 3, 3, 20);
        // Makes 11, 3, 3, 21: 38; ours 36; a 0 makes 2: 29, 37, 37, 19.
        D.due("smuggled", x.smuggled(0, 0, 0), 1);
        D.due("smuggled, how far", x.smuggled(0, 0, 1), 1);
        x.force(Due.say(x, "nought 5;slips 0;costs 0;"));
        Due.fill(x, 1, 2, 9, 6, 4);
        // A clerk makes just them, 19: with a 0 (5) there 15, 18, 20.
        D.due("either side", x.smuggled(1, 1, 0), 1);
        D.due("either side, how far", x.smuggled(1, 1, 1), 1);
        x.sheet(2, 1, 0);
        D.due("empty", x.smuggled(2, 1, 0), -1);
        D.due("empty, how far", x.smuggled(2, 1, 1), -1);
        D.due("empty, what", x.smuggled(2, 1, 2), -7);
        Due.fill(x, 3, 2, 7);
        // A 0 there makes 5.
        D.due("one alone", x.smuggled(3, 1, 0), 0);
        D.due("one alone, how far", x.smuggled(3, 1, 1), 2);
        D.due("what -1", x.smuggled(1, 1, -1), -7);
        D.due("the sheet is as it was", x.book(1, 1, 1), 19);
    }

    private static void slip() {
        NoZeroWithin x = new NoZeroWithin();
        x.clerk(0, 0);
        x.clerk(1, 0);
        x.clerk(3, 9);
        x.clerk(5, 0);
        D.due("first figure", x.slip(0, 345, 0), 0);
        D.due("a hundred", x.slip(0, 345, 1), 100);
        D.due("turned: the last written", x.slip(1, 345, 0), 2);
        D.due("turned: a hundred", x.slip(1, 345, 1), 100);
        D.due("by seven", x.slip(2, 345, 1), 49);
        D.due("ten slips down", x.slip(0, 110, 1), 10);
        D.due("nothing written", x.slip(3, 0, 0), -1);
        D.due("nothing written, by how much", x.slip(3, 0, 1), 0);
        D.due("v", x.slip(0, 100000, 0), -7);
        D.due("what", x.slip(0, 0, 2), -7);
        D.due("what -1", x.slip(0, 0, -1), -7);
        D.due("no clerk", x.slip(4, -1, 2), -5);
        D.due("he writes as ever", x.figure(0, 345, 1), 3);
    }

    private static void sure() {
        NoZeroWithin x = new NoZeroWithin();
        x.clerk(0, 0);
        x.clerk(5, 0);
        D.due("one figure", x.sure(0, 5), 970000000);
        // 970000000, 940900000, 912673000, 885292810, 858734025(.7).
        D.due("five figures", x.sure(0, 55555), 858734025);
        D.due("none", x.sure(1, 0), 1000000000);
        x.force(Due.say(x, "nought 1;slips v;costs 0;"));
        D.due("slips of the number", x.sure(0, 20), 640000000);
        D.due("never right", x.sure(0, 500), 0);
        D.due("no slips", x.sure(0, 0), 1000000000);
        x.force(Due.say(x, "nought 1;slips 33;costs 0;"));
        x.set(0, 2);
        long sure = 1000000000;
        for (int i = 0; i < 16; i++) {
            sure = sure * 67 / 100;
        }
        D.due("cut each time", x.sure(0, 99999), sure);
        D.due("no clerk", x.sure(2, -1), -5);
        D.due("v", x.sure(0, -1), -7);
    }

    private static void shortest() {
        NoZeroWithin x = new NoZeroWithin();
        x.clerk(0, 0);
        x.clerk(3, 9);
        x.clerk(5, 0);
        Due.fill(x, 0, 2, 11, 12, 3);
        D.due("twelve needs 12", x.shortest(0, 0, 0), 12);
        D.due("how many", x.shortest(0, 0, 1), 3);
        Due.fill(x, 0, 2, 5, 3);
        D.due("the least of like ones", x.shortest(0, 0, 0), 5);
        D.due("two figures", x.shortest(0, 0, 1), 2);
        D.due("short by three", x.shortest(0, 1, 0), 8);
        D.due("a stranger", x.shortest(0, 2, 0), 6);
        x.sheet(1, 0, 0);
        D.due("an empty book", x.shortest(1, 0, 0), 2);
        D.due("an empty book, how many", x.shortest(1, 0, 1), 0);
        D.due("BASE as it was", x.count(1), 10);
        x.force(Due.say(x, "nought (base=7)*3+(base<7)*900+(7<base)*400;slips 3;costs off;"));
        Due.fill(x, 0, 2, 0);
        D.due("the text, too, by that base", x.shortest(0, 0, 0), 7);
        D.due("one figure", x.shortest(0, 0, 1), 1);
        D.due("what", x.shortest(0, 0, 2), -7);
        D.due("what -1", x.shortest(0, 0, -1), -7);
    }

    private static void all(NoZeroWithin x, String why, int s, int c, int what, long want, long wantOfWho) {
        D.due(why + ", book", x.book(s, c, what), want);
        D.due(why + ", who", x.who(s, what), wantOfWho);
        D.due(why + ", smuggled", x.smuggled(s, c, what), want);
        D.due(why + ", shortest", x.shortest(s, c, what), want);
    }

    private static void refusingBooks() {
        NoZeroWithin x = new NoZeroWithin();
        x.clerk(0, 0);
        Due.fill(x, 0, 2, 1, 2);
        Due.fill(x, 1, 2, 1, -1);
        Due.fill(x, 2, 2, 100000);
        all(x, "no sheet 4", 4, 9, 9, -2, -2);
        all(x, "no sheet -1", -1, 9, 9, -2, -2);
        all(x, "a missing one", 3, 9, 9, -11, -11);
        all(x, "below 0", 1, 9, 9, -2, -2);
        all(x, "too great", 2, 9, 9, -2, -2);
        all(x, "no clerk, what", 0, 1, 9, -5, -7);
        all(x, "no clerk -1, what", 0, -1, 9, -5, -7);
        all(x, "what 9", 0, 0, 9, -7, -7);
        all(x, "what -1", 0, 0, -1, -7, -7);
        D.due("book what 4", x.book(0, 0, 4), -7);
        x.sheet(3, 0, 1);
        x.cell(3, 0, 200);
        all(x, "a byte below 0", 3, 0, 0, -2, -2);
    }
}
