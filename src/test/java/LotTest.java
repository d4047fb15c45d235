/** Promises 35 to 38: slips by lots, images. */
public final class LotTest {
    private static final Due D = new Due();

    public static void main(String[] args) {
        drawing();
        odds();
        images();
        D.end();
    }

    private static NoZeroWithin slipping(String slips) {
        NoZeroWithin x = new NoZeroWithin();
        x.clerk(0, 0);
        x.clerk(1, 0);
        x.clerk(5, 0);
        x.force(Due.say(x, "nought 1;slips " + slips + ";costs 0;"));
        return x;
    }

    private static void drawing() {
        // SEED 0: 48271, then 48271 * 48271 = 2330089441 less 2147483647: 182605794; LOTS 71, 94.
        D.due("neither", slipping("71").drawn(0, 0, 33), 33);
        D.due("the first", slipping("72").drawn(0, 0, 33), 43);
        D.due("the first still", slipping("94").drawn(0, 0, 33), 43);
        D.due("both", slipping("95").drawn(0, 0, 33), 44);
        D.due("turned: the first written is the last figure", slipping("72").drawn(0, 1, 33), 34);
        D.due("a ten slips down", slipping("95").drawn(0, 0, 110), 99);
        D.due("a nine slips up", slipping("72").drawn(0, 0, 99), 109);
        D.due("never", slipping("0").drawn(5, 0, 777), 777);
        D.due("always", slipping("100").drawn(5, 0, 777), 888);
        D.due("nothing written", slipping("100").drawn(5, 2, 0), 0);
        D.due("a nought slips", slipping("100").drawn(5, 0, 0), 2);
        D.due("slips of the number", slipping("(v=33)*72").drawn(0, 0, 33), 43);
        D.due("slips of another number", slipping("(v=33)*72").drawn(0, 0, 32), 32);
        // SEED 99999: 100000 * 48271 = 4827100000 less twice 2147483647: 532132706; a LOT of 6.
        D.due("a great SEED", slipping("7").drawn(99999, 0, 5), 6);
        D.due("a great SEED, hardly", slipping("6").drawn(99999, 0, 5), 5);
        NoZeroWithin x = slipping("3");
        D.due("no clerk", x.drawn(-1, 3, -1), -5);
        D.due("SEED -1", x.drawn(-1, 0, 1), -7);
        D.due("SEED 100000", x.drawn(100000, 0, 1), -7);
        D.due("v -1", x.drawn(0, 0, -1), -7);
        D.due("v 100000", x.drawn(0, 0, 100000), -7);
    }

    private static void odds() {
        // The first LOTS of SEEDS 0 .. 3 are 71, 42 (96542), 13 (144813), 84 (193084).
        NoZeroWithin x = slipping("43");
        D.due("two of four: above", x.odds(0, 4, 0, 5, 0), 1);
        D.due("two of four: below", x.odds(0, 4, 0, 5, 1), 2);
        D.due("one of three: above", x.odds(0, 3, 0, 5, 0), 1);
        D.due("one of three: below", x.odds(0, 3, 0, 5, 1), 3);
        D.due("one of one", x.odds(0, 1, 0, 5, 1), 1);
        D.due("none of one: above", x.odds(1, 1, 0, 5, 0), 0);
        D.due("none of two: below", x.odds(1, 2, 0, 5, 1), 1);
        D.due("all of 60: above", slipping("0").odds(0, 60, 0, 5, 0), 1);
        D.due("all of 60: below", slipping("0").odds(0, 60, 0, 5, 1), 1);
        D.due("none of 60: above", slipping("100").odds(0, 60, 0, 5, 0), 0);
        D.due("none of 60: below", slipping("100").odds(0, 60, 0, 5, 1), 1);
        D.due("nothing written", slipping("100").odds(0, 60, 2, 0, 0), 1);
        // LOTS of 99999: 6; of 100000: 532132706 + 48271: 77; of 100001: 48.
        D.due("past 99999: above", slipping("10").odds(99999, 3, 0, 5, 0), 2);
        D.due("past 99999: below", slipping("10").odds(99999, 3, 0, 5, 1), 3);
        long no = NoZeroWithin.NO;
        D.due("SEED -1", x.odds(-1, 1, 0, 5, 0), no);
        D.due("SEED 100000", x.odds(100000, 1, 0, 5, 0), no);
        D.due("seeds 0", x.odds(0, 0, 0, 5, 0), no);
        D.due("seeds 61", x.odds(0, 61, 0, 5, 0), no);
        D.due("no clerk", x.odds(0, 1, 3, 5, 0), no);
        D.due("no clerk -1", x.odds(0, 1, -1, 5, 0), no);
        D.due("v -1", x.odds(0, 1, 0, -1, 0), no);
        D.due("v 100000", x.odds(0, 1, 0, 100000, 0), no);
        D.due("part 2", x.odds(0, 1, 0, 5, 2), no);
        D.due("part -1", x.odds(0, 1, 0, 5, -1), no);
    }

    private static void images() {
        NoZeroWithin x = new NoZeroWithin();
        D.due("no image", x.back(), -3);
        x.clerk(2, 4);
        x.set(0, 7);
        x.set(1, -7);
        x.lend(1, 2, 77);
        Due.say(x, "nought 2;slips 0;costs 0;");
        x.force(1);
        D.due("image", x.image(), 1);
        x.clerk(3, 1);
        x.clerk(3, 1);
        x.set(0, 3);
        x.set(1, 33);
        x.lend(1, 2, 5);
        x.lend(5, 0, 5);
        Due.say(x, "nought 3;slips 0;costs 0;");
        x.force(2);
        Due.fill(x, 0, 2, 9, 9);
        x.feed(3, 1, 2, 3, 0, 0);
        D.due("back", x.back(), 1);
        D.due("clerks", x.count(0), 1);
        D.due("a clerk that came since", x.told(1, 0), -5);
        D.due("one that was", x.told(0, 1), 4);
        D.due("BASE", x.count(1), 7);
        D.due("THE YEAR", x.count(2), -7);
        D.due("THE LAW", x.count(4), 1);
        D.due("debt", x.debt(1, 2), 77);
        D.due("a debt made since", x.debt(5, 0), 0);
        D.due("texts stay", x.count(3), 3);
        D.due("the tape stays", x.count(5), 3);
        D.due("sheets stay", x.cell(0, 1, 9), 1);
        D.due("a new clerk", x.clerk(5, 5), 1);
        D.due("is himself", x.told(1, 0), 5);
        x.lend(1, 2, 6);
        D.due("back once more", x.back(), 1);
        D.due("as kept", x.debt(1, 2), 77);
        x.set(0, 4);
        x.lend(1, 2, 8);
        x.clerk(0, 0);
        D.due("a later image", x.image(), 2);
        x.set(0, 5);
        x.lend(1, 2, 9);
        D.due("back to the later one", x.back(), 2);
        D.due("BASE of the later one", x.count(1), 4);
        D.due("debt of the later one", x.debt(1, 2), 8);
    }
}
