import java.util.ArrayList;
import java.util.Arrays;
import java.util.List;
import java.util.function.Supplier;

/**
 * "REFUSALS, of several the first one told", "They change nothing, but where it is told", "What is asked changes
 * nothing, but where it is told": each call with each wrong number, and with each two of them.
 */
public final class RefusalTest {
    private static final int LEAST = Integer.MIN_VALUE, MOST = Integer.MAX_VALUE;
    private static final Due D = new Due();

    /** A value that is refused, and as the how manieth the document tells it. */
    private record Wrong(int value, long refusal, int told) {
    }

    /** What a call may be given: a value that is as told, and such as are not. */
    private record Arg(int good, List<Wrong> wrong) {
        Arg wrong(int told, long refusal, int... values) {
            List<Wrong> all = new ArrayList<>(wrong);
            for (int v : values) {
                all.add(new Wrong(v, refusal, told));
            }
            return new Arg(good, all);
        }
    }

    private static Arg good(int value) {
        return new Arg(value, List.of());
    }

    private static Arg outside(int told, long refusal, int good, int below, int above) {
        return good(good).wrong(told, refusal, below, above, LEAST, MOST);
    }

    public static void main(String[] args) {
        town();
        writings();
        sumsAndBooks();
        debtsAndYears();
        toldBooks();
        lots();
        host();
        whenFull();
        whenNew();
        asked();
        undone();
        D.end();
    }

    // ---- the calls of a town that keeps all that can be kept

    private static final Arg WHAT_2_BAD = outside(0, -2, 1, -1, 2);

    private static Arg clerk(int told, long refusal) {
        return good(1).wrong(told, refusal, -1, 4, 5, LEAST, MOST);
    }

    private static Arg number(int told, long refusal) {
        return outside(told, refusal, 30, -1, 100000);
    }

    private static Arg twofold(int told, long refusal) {
        return outside(told, refusal, 1, -1, 2);
    }

    private static Arg sheetOrMissing(int good) {
        return outside(0, -2, good, -1, 4).wrong(1, -11, 3);
    }

    /** Sheet 1 has a number too great and is not by twos, sheet 2 has one too small. */
    private static Arg book() {
        return sheetOrMissing(0).wrong(2, -2, 1, 2);
    }

    private static void rich(String name, Arg... args) {
        refused(Worlds::rich, 0, name, args);
    }

    private static void town() {
        rich("count", outside(0, -2, 0, -1, 6));
        Arg what = outside(0, -5, 0, -1, 2);
        rich("set", what, outside(1, -7, 5, 1, 13).wrong(1, -7, 0));
        rich("set", outside(0, -5, 1, -1, 2), outside(1, -7, 5, -1000, 1000).wrong(1, -7, 0));
        Arg b = outside(0, -2, 32, -1, 256);
        rich("feed", outside(0, -2, 1, 0, 6), b, b, b, b, b);
        rich("force", outside(0, -2, 1, -1, 3));
        rich("asks", outside(0, -2, 2, -1, 3), clerk(0, -2), number(0, -2), number(0, -2));
    }

    private static void writings() {
        rich("clerk", outside(0, -2, 2, -1, 6), outside(0, -2, 2, -1, 10));
        rich("told", clerk(0, -5), outside(1, -7, 2, -1, 4));
        rich("figure", clerk(0, -5), number(1, -7), outside(1, -7, 1, -1, 41));
        Arg pair = good(103).wrong(0, -5, -1, -100, -103, 4, 5, 99, 104, 400, 403, 10103, LEAST, MOST);
        rich("reads", pair, number(1, -7));
        rich("plain", clerk(0, -5), number(1, -7));
    }

    private static void sumsAndBooks() {
        rich("adds", clerk(0, -5), number(1, -7), number(1, -7));
        rich("apart", clerk(0, -5), outside(1, -7, 3, -1, 1000), twofold(1, -7));
        rich("book", book(), clerk(3, -5), outside(4, -7, 3, -1, 4));
        rich("who", book(), twofold(3, -7));
        rich("smuggled", book(), clerk(3, -5), twofold(4, -7));
        rich("slip", clerk(0, -5), number(1, -7), twofold(1, -7));
        rich("sure", clerk(0, -5), number(1, -7));
        rich("shortest", book(), clerk(3, -5), twofold(4, -7));
    }

    private static void debtsAndYears() {
        // 1 and 1 are one and the same.
        Arg one = outside(0, -5, 0, -1, 6).wrong(0, -5, 1);
        Arg other = outside(0, -5, 1, -1, 6);
        rich("lend", one, other, outside(1, -7, 5, -1, 10000));
        rich("debt", one, other);
        Arg folkPair = good(1).wrong(1, -5, -1, 0, 6, 11, 16, 55, 60, 61, 101, -10, LEAST, MOST);
        // 0 OWES 1 just 5.
        rich("pay", clerk(0, -6), folkPair, outside(2, -7, 2, -1, 10000).wrong(3, -3, 6, 9999));
        rich("forgive", WHAT_2_BAD);
        Arg ofYear = outside(0, -100000, 5, -1000, 1000).wrong(0, -100000, 0);
        rich("span", ofYear, ofYear);
        rich("behind", ofYear, outside(0, -100000, 5, -3001, 3001).wrong(1, -100001, -3000, 3000, -1004, 995));
        rich("alike", clerk(0, -100005), outside(1, -100007, 5, 0, 201), twofold(1, -100007));
    }

    private static void toldBooks() {
        rich("judge", book(), clerk(3, -5));
        rich("kinds", book(), clerk(3, -5), outside(4, -7, 2, -1, 3));
        rich("whose", book());
        rich("laws", book(), clerk(3, -5));
        Arg stepsMany = outside(2, -7, 203, -1, 10000).wrong(2, -7, 21, 99, 9921, 9999, -100, -101, 10020);
        rich("film", outside(0, -2, 0, -1, 4), clerk(1, -5), outside(2, -7, 7, -1, 1000), stepsMany);
    }

    private static void lots() {
        rich("drawn", number(1, -7), clerk(0, -5), number(1, -7));
        long no = NoZeroWithin.NO;
        rich("odds", number(0, no), outside(0, no, 4, 0, 61), clerk(0, no), number(0, no), twofold(0, no));
    }

    private static void host() {
        Arg sheet = outside(0, -2, 0, -1, 4);
        rich("sheet", sheet, outside(0, -2, 1, -2, 3), good(3).wrong(0, -2, 41, MOST).wrong(1, -14, -1, LEAST));
        rich("cell", sheetOrMissing(0), outside(2, -12, 1, -1, 4), good(77));
        // Two numbers of sheet 0 (four ints) to sheet 1 (three ints); sheet 2 is of bytes.
        rich("copy", sheetOrMissing(0), outside(3, -12, 0, -1, 3), sheetOrMissing(1).wrong(2, -13, 2),
            outside(3, -12, 0, -1, 2), outside(3, -12, 2, -1, 4));
        rich("clerksBy", sheetOrMissing(0).wrong(2, -13, 2), outside(0, -2, 2, -1, 3).wrong(2, -13, 1),
            outside(3, -12, 0, -1, 3), outside(0, -2, 1, -1, 6));
        rich("taken", outside(1, -12, 0, -1, 11).wrong(2, -11, 4, 8), outside(0, -2, 0, -1, 7).wrong(3, -13, 1, 2, 5, 6));
    }

    private static void whenFull() {
        Arg b = outside(0, -2, 32, -1, 256);
        refused(Worlds::full, -4, "feed", outside(0, -2, 1, 0, 6), b, b, b, b, b);
        refused(Worlds::full, -4, "clerk", outside(0, -2, 2, -1, 6), outside(0, -2, 2, -1, 10));
        refused(Worlds::full, -4, "text");
    }

    private static void whenNew() {
        Supplier<NoZeroWithin> anew = NoZeroWithin::new;
        refused(anew, -3, "back");
        for (int c = 0; c < 5; c++) {
            refused(anew, -5, "told", good(c), good(0));
            refused(anew, -6, "pay", good(c), good(1).wrong(1, -5, 0).wrong(1, -5, 6), good(0).wrong(2, -7, -1).wrong(3, -3, 1));
            refused(anew, -11, "taken", good(c), outside(0, -2, 0, -1, 7));
        }
        for (int s = 0; s < 4; s++) {
            refused(anew, -11, "cell", good(s), good(0), good(0));
            refused(anew, -11, "book", good(s), good(0), good(0));
            refused(anew, -11, "judge", good(s), good(0));
        }
    }

    /** The first told of what is wrong is answered, and all is kept as it was. whenGood: the refusal of a call that is as told, or 0. */
    private static void refused(Supplier<NoZeroWithin> world, long whenGood, String name, Arg... args) {
        List<Long> was = Worlds.allOf(world.get());
        if (whenGood != 0) {
            refused(world, was, whenGood, name, goods(args));
        }
        for (int i = 0; i < args.length; i++) {
            for (Wrong first : args[i].wrong()) {
                int[] given = goods(args);
                given[i] = first.value();
                refused(world, was, earlier(whenGood, first), name, given);
                for (int k = i + 1; k < args.length; k++) {
                    for (Wrong second : args[k].wrong()) {
                        int[] both = given.clone();
                        both[k] = second.value();
                        refused(world, was, earlier(whenGood, second.told() < first.told() ? second : first), name, both);
                    }
                }
            }
        }
    }

    /** Only FULL is told behind what may be wrong with the numbers; no clerk, nothing there ahead of it. */
    private static long earlier(long whenGood, Wrong wrong) {
        return whenGood == 0 || whenGood == -4 || wrong.told() == 0 ? wrong.refusal() : whenGood;
    }

    private static int[] goods(Arg[] args) {
        return Arrays.stream(args).mapToInt(Arg::good).toArray();
    }

    private static void refused(Supplier<NoZeroWithin> world, List<Long> was, long want, String name, int[] given) {
        NoZeroWithin x = world.get();
        String call = name + Arrays.toString(given);
        D.due(call, Calls.ask(x, name, given), want);
        D.same(call, Worlds.allOf(x), was);
    }

    // ---- what is asked

    private static void asked() {
        String[] calls = {
            "count(0)", "count(5)", "asks(0, 1, 0, 0)", "asks(1, 2, 30, 4)", "asks(2, 3, 99999, 99999)", "told(0, 0)", "told(1, 2)",
            "told(3, 3)", "figure(0, 0, 0)", "figure(1, 99999, 3)", "figure(2, 10, 40)", "reads(103, 777)", "reads(301, 0)",
            "plain(2, 0)", "plain(1, 99999)", "adds(0, 0, 99999)", "apart(2, 7, 0)", "apart(3, 7, 1)", "book(0, 0, 0)",
            "book(0, 1, 1)", "book(0, 2, 2)", "book(0, 3, 3)", "who(0, 0)", "who(0, 1)", "smuggled(0, 0, 0)", "smuggled(0, 2, 1)",
            "slip(0, 345, 0)", "slip(1, 99999, 1)", "slip(3, 0, 0)", "sure(0, 345)", "shortest(0, 0, 0)", "shortest(0, 1, 1)",
            "debt(1, 2)", "debt(3, 4)", "rings()", "forgive(0)", "forgive(1)", "span(-1, 1)", "behind(-3, 9)", "alike(0, 200, 0)",
            "alike(1, 200, 1)", "judge(0, 0)", "judge(0, 2)", "kinds(0, 1, 0)", "kinds(0, 1, 1)", "kinds(0, 1, 2)", "whose(0)",
            "laws(0, 0)", "laws(0, 2)", "drawn(5, 0, 345)", "drawn(99999, 1, 99999)", "odds(5, 60, 0, 345, 0)",
            "odds(99999, 60, 1, 77, 1)", "taken(0, 0)", "taken(6, 6)", "taken(2, 4)", "copy(0, 1, 1, 1, 0)", "clerksBy(0, 2, 0, 0)"};
        List<Long> rich = Worlds.allOf(Worlds.rich());
        List<Long> full = Worlds.allOf(Worlds.full());
        for (String call : calls) {
            asked(Worlds.rich(), call, rich);
            asked(Worlds.full(), call, full);
        }
    }

    /** What is asked twice answers the same, too. */
    private static void asked(NoZeroWithin x, String call, List<Long> was) {
        long once = Calls.ask(x, call);
        D.due(call + " once more", Calls.ask(x, call), once);
        D.same(call, Worlds.allOf(x), was);
    }

    /** What is changed and changed again is as it was: nothing else went with it. */
    private static void undone() {
        String[][] runs = {
            {"set(0, 3)", "set(0, 9)"}, {"set(1, -999)", "set(1, 44)"}, {"force(0)", "force(1)"}, {"lend(0, 1, 9999)", "lend(0, 1, 5)"},
            {"lend(5, 3, 1)", "lend(5, 3, 0)"}, {"pay(0, 1, 2)", "lend(0, 1, 5)"}, {"pay(2, 1, 5)", "lend(0, 1, 5)"},
            {"film(3, 0, 5, 120)", "sheet(3, -1, 0)"}, {"sheet(3, 1, 7)", "sheet(3, -1, 7)"}, {"cell(0, 1, 0)", "cell(0, 1, 10)"},
            {"cell(2, 1, 9)", "cell(2, 1, 260)"}, {"copy(0, 2, 0, 1, 1)", "cell(0, 1, 10)"}, {"copy(1, 0, 1, 0, 3)"}, {"sheet(0, 0, 0)", "fill 0 2: 0 10 345 99999"},
            {"clear()", "lend(0, 1, 5)", "lend(1, 0, 7)", "lend(1, 2, 8)", "lend(2, 0, 9)"}};
        List<Long> was = Worlds.allOf(Worlds.rich());
        for (String[] run : runs) {
            NoZeroWithin x = Worlds.rich();
            for (String call : run) {
                Calls.ask(x, call);
            }
            D.same(String.join(", ", run), Worlds.allOf(x), was);
        }
    }
}
