/** Promises 30 to 34: told books. */
public final class ToldBookTest {
    private static final Due D = new Due();

    public static void main(String[] args) {
        judging();
        kinds();
        mores();
        bases();
        whose();
        laws();
        films();
        refusing();
        D.end();
    }

    private static void judging() {
        NoZeroWithin x = new NoZeroWithin();
        x.clerk(0, 0);
        x.clerk(1, 0);
        Due.fill(x, 0, 2, 12, 12, 0, 1, 345, 345, 7, 8);
        D.due("judge", x.judge(0, 0), 3);
        D.due("judge, turned", x.judge(0, 1), 0);
        x.cell(0, 7, 7);
        D.due("all right", x.judge(0, 0), -1);
        Due.fill(x, 1, 2, 12, 21, 0, 1, 345, 543);
        D.due("all right, turned", x.judge(1, 1), -1);
        D.due("the second number may be any", x.cell(1, 5, -7), 1);
        D.due("below 0", x.judge(1, 1), 2);
        Due.fill(x, 2, 0, 99, 99, 5, 5);
        D.due("bytes", x.judge(2, 0), -1);
        x.sheet(3, 1, 0);
        D.due("empty", x.judge(3, 0), -1);
    }

    private static void kinds() {
        NoZeroWithin x = new NoZeroWithin();
        x.clerk(0, 9);
        Due.fill(x, 0, 2, 5, 5);
        // All but a GENEROUS by MORE 9; a 5 is a 5 with 7 and 9 figures, too.
        D.due("a 5", x.kinds(0, 0, 0), 0b101111);
        Due.fill(x, 0, 2, 12, 12);
        D.due("a 12", x.kinds(0, 0, 0), 0b000101);
        Due.fill(x, 0, 2, 12, 21);
        // A GENEROUS makes 21 of it.
        D.due("a 12 turned", x.kinds(0, 0, 0), 0b010010);
        Due.fill(x, 0, 2, 12, 13);
        D.due("a 12 by nine", x.kinds(0, 0, 0), 0b100000);
        Due.fill(x, 0, 2, 12, 51);
        D.due("a 12 by seven, turned", x.kinds(0, 0, 0), 0b001000);
        Due.fill(x, 0, 2, 10, 11, 0, 2);
        D.due("a 10 by a kindly", x.kinds(0, 0, 0), 0b000100);
        Due.fill(x, 0, 2, 3, 12);
        D.due("3 and 9", x.kinds(0, 0, 0), 0b010000);
        Due.fill(x, 0, 2, 0, 0);
        D.due("0 of 0", x.kinds(0, 0, 0), 0b100000);
        D.due("he is as he was", x.told(0, 0), 0);
        x.sheet(0, 2, 0);
        D.due("empty", x.kinds(0, 0, 0), 63);
    }

    private static void mores() {
        NoZeroWithin x = new NoZeroWithin();
        x.clerk(4, 2);
        x.clerk(3, 0);
        x.clerk(0, 5);
        Due.fill(x, 0, 2, 1, 7);
        D.due("a generous one's", x.kinds(0, 0, 1), 1 << 6);
        Due.fill(x, 0, 2, 9, 11);
        D.due("a short one's", x.kinds(0, 1, 1), 0b111000000);
        Due.fill(x, 0, 2, 9, 9);
        D.due("a clerk's, any", x.kinds(0, 2, 1), 1023);
        D.due("MORE as it was", x.told(0, 1), 2);
        x.force(Due.say(x, "nought more+clerk*10;slips 0;costs 0;"));
        Due.fill(x, 0, 2, 0, 27);
        D.due("by the text", x.kinds(0, 2, 1), 1 << 7);
    }

    private static void bases() {
        NoZeroWithin x = new NoZeroWithin();
        x.clerk(0, 0);
        x.clerk(1, 0);
        x.clerk(5, 0);
        Due.fill(x, 0, 2, 3, 3);
        D.due("any: he reads it as he wrote it", x.kinds(0, 0, 2), 0b1111111111100);
        // 3 is 1 1 by two, and 3 by three or more.
        Due.fill(x, 0, 2, 4, 5);
        // Turned by two 2 1: 5; by three 1 1: 4.
        D.due("turned", x.kinds(0, 1, 2), 1 << 2);
        Due.fill(x, 0, 2, 9, 10);
        // A stranger: by 8, 7, 6, 5 figures 1 and another one, 1 more by BASE; by 4 2 1, which are 11 by five.
        D.due("a stranger's", x.kinds(0, 2, 2), 0b1111000000);
        D.due("BASE as it was", x.count(1), 10);
        x.force(Due.say(x, "nought base*2;slips 0;costs 0;"));
        Due.fill(x, 0, 2, 0, 14);
        D.due("by the text", x.kinds(0, 0, 2), 1 << 7);
    }

    private static void whose() {
        NoZeroWithin x = new NoZeroWithin();
        Due.fill(x, 0, 2, 10, 10, 11, 11);
        D.due("nobody's", x.whose(0), 0);
        int[] kinds = {0, 2, 1, 5, 1};
        for (int kind : kinds) {
            x.clerk(kind, 0);
        }
        D.due("whose", x.whose(0), 0b10101);
        x.sheet(1, 0, 0);
        D.due("everybody's", x.whose(1), 31);
    }

    private static void laws() {
        NoZeroWithin x = new NoZeroWithin();
        x.clerk(0, 3);
        x.clerk(5, 3);
        Due.say(x, "nought 2;slips 0;costs 0;");
        Due.say(x, "nought more-1;slips 0;costs 0;");
        Due.say(x, "nought 1;slips 0;costs 0;");
        Due.fill(x, 0, 2, 0, 2);
        D.due("laws", x.laws(0, 0), 0b0110);
        Due.fill(x, 0, 2, 0, 1);
        D.due("other laws", x.laws(0, 0), 0b1001);
        Due.fill(x, 0, 2, 0, 0);
        D.due("a stranger, any", x.laws(0, 1), 15);
        D.due("none", x.laws(0, 0), 0);
        D.due("THE LAW as it was", x.count(4), 0);
    }

    private static void films() {
        NoZeroWithin x = new NoZeroWithin();
        x.clerk(1, 0);
        x.clerk(3, 9);
        D.due("film", x.film(0, 0, 8, 703), 3);
        D.due("it is ints", x.copy(0, 0, 0, 0, 6), 6);
        D.due("of six", x.cell(0, 6, 1), -12);
        D.due("his", x.judge(0, 0), -1);
        Due.fill(x, 1, 2, 8, 8, 15, 51, 22, 22);
        D.due("as he writes", x.judge(1, 0), -1);
        for (int i = 0; i < 6; i++) {
            x.film(0, 0, 8, 703);
            x.cell(0, i, 4);
            D.due("each row is his", x.judge(0, 0), i / 2);
        }
        D.due("none, no step", x.film(0, 0, 5, 0), 0);
        D.due("none", x.film(0, 0, 999, 9900), 0);
        D.due("empty", x.cell(0, 0, 0), -12);
        D.due("steps of none", x.film(0, 0, 25, 3), 3);
        for (int i = 0; i < 3; i++) {
            x.cell(0, 2 * i + 1, 52);
        }
        D.due("one number thrice", x.judge(0, 0), -1);
        D.due("twenty", x.film(0, 0, 999, 9920), 20);
        D.due("forty numbers", x.cell(0, 39, 0), 1);
        D.due("not 41", x.cell(0, 40, 0), -12);
        D.due("the last", x.judge(0, 0), 19);
        x.sheet(2, 0, 3);
        D.due("over bytes", x.film(2, 0, 300, 1), 1);
        D.due("ints then", x.judge(2, 0), -1);
        x.set(0, 5);
        x.force(Due.say(x, "nought 9999*10+9;slips 0;costs 0;"));
        D.due("a great one", x.plain(1, 0) > 2147483647L ? 1 : 0, 1);
        x.film(3, 1, 0, 1);
        D.due("2147483647 is no number of a book", x.book(3, 1, 0), -2);
        D.due("nor is it his", x.judge(3, 1), 0);
    }

    private static void all(NoZeroWithin x, String why, int s, int c, long want, long wantOfWhose) {
        D.due(why + ", judge", x.judge(s, c), want);
        D.due(why + ", kinds", x.kinds(s, c, 9), want);
        D.due(why + ", laws", x.laws(s, c), want);
        D.due(why + ", whose", x.whose(s), wantOfWhose);
    }

    private static void refusing() {
        NoZeroWithin x = new NoZeroWithin();
        x.clerk(0, 0);
        all(x, "no sheet 4", 4, 9, -2, -2);
        all(x, "no sheet -1", -1, 9, -2, -2);
        all(x, "missing", 0, 9, -11, -11);
        Due.fill(x, 0, 2, 1, 1, 1);
        all(x, "not by twos", 0, 9, -2, -2);
        Due.fill(x, 0, 2, 1, 1, -1, 1);
        all(x, "v below 0", 0, 9, -2, -2);
        Due.fill(x, 0, 2, 1, 1, 100000, 1);
        all(x, "v too great", 0, 9, -2, -2);
        Due.fill(x, 0, 2, 99999, 100000, 1, -1);
        D.due("no clerk, judge", x.judge(0, 1), -5);
        D.due("no clerk, kinds", x.kinds(0, -1, 9), -5);
        D.due("no clerk, laws", x.laws(0, 1), -5);
        D.due("sort 3", x.kinds(0, 0, 3), -7);
        D.due("sort -1", x.kinds(0, 0, -1), -7);
        D.due("film, sheet", x.film(4, 9, -1, -1), -2);
        D.due("film, sheet -1", x.film(-1, 9, -1, -1), -2);
        D.due("film, clerk", x.film(0, 9, -1, -1), -5);
        D.due("film, from", x.film(0, 0, -1, 101), -7);
        D.due("film, from 1000", x.film(0, 0, 1000, 101), -7);
        D.due("film, n 21", x.film(0, 0, 0, 121), -7);
        D.due("film, step 100", x.film(0, 0, 0, 10001), -7);
        D.due("film, -1", x.film(0, 0, 0, -1), -7);
        D.due("film, -100", x.film(0, 0, 0, -100), -7);
        D.due("nothing was filmed", x.judge(0, 0), 0);
        D.due("of four still", x.cell(0, 3, 1), 1);
    }
}
