/** Promises 21 to 26: debts. */
public final class DebtTest {
    private static final Due D = new Due();

    public static void main(String[] args) {
        lending();
        paying();
        rings();
        clearing();
        forgiving();
        D.end();
    }

    private static NoZeroWithin owing(int... rows) {
        NoZeroWithin x = new NoZeroWithin();
        for (int i = 0; i + 2 < rows.length; i += 3) {
            x.lend(rows[i], rows[i + 1], rows[i + 2]);
        }
        return x;
    }

    private static void lending() {
        NoZeroWithin x = new NoZeroWithin();
        D.due("lend", x.lend(0, 5, 9999), 0);
        D.due("lend anew", x.lend(0, 5, 3), 9999);
        D.due("debt", x.debt(0, 5), 3);
        D.due("the other way", x.debt(5, 0), 0);
        D.due("10000", x.lend(0, 5, 10000), -7);
        D.due("-1", x.lend(0, 5, -1), -7);
        int[][] none = {{-1, 0}, {0, -1}, {6, 0}, {0, 6}, {2, 2}, {Integer.MAX_VALUE, 0}, {0, Integer.MIN_VALUE}};
        for (int[] pair : none) {
            D.due("lend, none such", x.lend(pair[0], pair[1], -1), -5);
            D.due("debt, none such", x.debt(pair[0], pair[1]), -5);
        }
        D.due("to 0", x.lend(0, 5, 0), 3);
    }

    private static void paying() {
        NoZeroWithin x = owing(0, 1, 50, 2, 3, 7);
        D.due("no clerk", x.pay(0, 99, -1), -6);
        x.clerk(0, 0);
        x.clerk(4, 8);
        x.clerk(5, 0);
        D.due("no clerk -1", x.pay(-1, 1, 1), -6);
        D.due("part", x.pay(0, 1, 20), 30);
        D.due("too much", x.pay(0, 1, 31), -3);
        D.due("it stays", x.debt(0, 1), 30);
        D.due("all: a nought", x.pay(0, 1, 30), 1);
        D.due("still something", x.debt(0, 1), 1);
        D.due("generous", x.pay(1, 1, 1), 10);
        D.due("a stranger", x.pay(2, 1, 10), 0);
        D.due("nothing of nothing", x.pay(0, 1, 0), 1);
        D.due("nothing of something", x.pay(0, 23, 0), 7);
        D.due("the other way", x.pay(0, 32, 1), -3);
        x.force(Due.say(x, "nought 9999*10;slips 0;costs 0;"));
        D.due("9999 at most", x.pay(0, 23, 7), 9999);
        for (int fg : new int[] {-1, 0, 6, 11, 60, 61, 100, -12, 7, 9, Integer.MIN_VALUE, Integer.MAX_VALUE}) {
            D.due("none such " + fg, x.pay(0, fg, -1), -5);
        }
        x.lend(5, 4, 3);
        D.due("pay, the last two", x.pay(0, 54, 1), 2);
        D.due("much -1", x.pay(0, 1, -1), -7);
        D.due("much 10000", x.pay(0, 1, 10000), -7);
    }

    private static void rings() {
        D.due("a chain", owing(0, 1, 1, 1, 2, 1, 2, 3, 1).rings(), 0);
        D.due("two", owing(0, 5, 1, 5, 0, 1).rings(), 33);
        D.due("three and a tail", owing(1, 2, 1, 2, 3, 1, 3, 1, 1, 0, 1, 1, 3, 4, 1).rings(), 14);
        D.due("all six", owing(0, 1, 1, 1, 2, 1, 2, 3, 1, 3, 4, 1, 4, 5, 1, 5, 0, 1).rings(), 63);
        D.due("six against the order", owing(0, 5, 1, 5, 4, 1, 4, 3, 1, 3, 2, 1, 2, 1, 1, 1, 0, 1).rings(), 63);
        D.due("between two rings", owing(0, 1, 1, 1, 0, 1, 1, 2, 1, 2, 3, 1, 3, 4, 1, 4, 3, 1).rings(), 27);
        D.due("a debt of 0", owing(0, 1, 1, 1, 0, 1, 1, 0, 0).rings(), 0);
    }

    private static void debts(NoZeroWithin x, int... rows) {
        for (int i = 0; i + 2 < rows.length; i += 3) {
            D.due("debt(" + rows[i] + ", " + rows[i + 1] + ")", x.debt(rows[i], rows[i + 1]), rows[i + 2]);
        }
    }

    private static void clearing() {
        NoZeroWithin pair = owing(1, 4, 10, 4, 1, 7);
        D.due("a pair", pair.clear(), 14);
        debts(pair, 1, 4, 3, 4, 1, 0);
        D.due("once more", pair.clear(), 0);
        NoZeroWithin three = owing(0, 2, 5, 2, 1, 6, 1, 0, 7);
        D.due("three", three.clear(), 15);
        debts(three, 0, 2, 0, 2, 1, 1, 1, 0, 2);
        // The pair 0, 1 first; then 0 1 2 takes what 0 owes 1 still, so that 1 2 3 and 0 1 3 come behind.
        NoZeroWithin order = owing(0, 1, 9, 1, 0, 4, 1, 2, 8, 2, 0, 3, 1, 3, 2, 3, 0, 5);
        D.due("in their order", order.clear(), 8 + 9 + 6);
        debts(order, 0, 1, 0, 1, 0, 0, 1, 2, 5, 2, 0, 0, 1, 3, 0, 3, 0, 3);
        NoZeroWithin less = owing(0, 1, 4, 1, 2, 4, 2, 0, 4, 1, 3, 4, 3, 0, 4);
        D.due("the first three take it", less.clear(), 12);
        debts(less, 0, 1, 0, 1, 2, 0, 2, 0, 0, 1, 3, 4, 3, 0, 4);
        NoZeroWithin four = owing(0, 1, 4, 1, 2, 4, 2, 3, 4, 3, 0, 4);
        D.due("four stay", four.clear(), 0);
        debts(four, 0, 1, 4, 3, 0, 4);
        D.due("all", owing(0, 1, 9999, 1, 0, 9999).clear(), 19998);
    }

    private static void forgiving() {
        NoZeroWithin none = owing(0, 1, 1, 1, 2, 1);
        D.due("none", none.forgive(0), -1);
        D.due("none, how many", none.forgive(1), 0);
        NoZeroWithin ring = owing(3, 4, 1, 4, 5, 1, 5, 3, 1);
        D.due("of like ones the first", ring.forgive(0), 34);
        D.due("then none", ring.forgive(1), 0);
        D.due("asked only", ring.debt(3, 4), 1);
        D.due("rings as ever", ring.rings(), 56);
        NoZeroWithin first = owing(0, 1, 1, 1, 0, 1);
        D.due("the very first", first.forgive(0), 1);
        NoZeroWithin two = owing(0, 1, 1, 1, 0, 1, 2, 3, 1, 3, 4, 1, 4, 2, 1);
        D.due("the greater ring", two.forgive(0), 23);
        D.due("two are left", two.forgive(1), 2);
        // Three who owe each other all: no one debt less lets anybody out.
        NoZeroWithin knot = owing(0, 1, 1, 1, 0, 1, 0, 2, 1, 2, 0, 1, 1, 2, 1, 2, 1, 1);
        D.due("no use", knot.forgive(0), -1);
        D.due("no use, as now", knot.forgive(1), 3);
        NoZeroWithin back = owing(0, 1, 1, 1, 2, 1, 2, 0, 1, 2, 1, 1);
        // Without 0 to 1 there are 1 and 2, without 1 to 2 none.
        D.due("the better one", back.forgive(0), 12);
        D.due("the better one, how many", back.forgive(1), 0);
        D.due("what 2", back.forgive(2), -2);
        D.due("what -1", back.forgive(-1), -2);
    }
}
