/** The example of README.md, call by call: whoever changes the one changes the other. */
public final class ReadmeTest {
    private static final Due D = new Due();

    public static void main(String[] args) {
        NoZeroWithin town = new NoZeroWithin();
        clerks(town);
        texts(town);
        books(town);
        debts(town);
        years(town);
        lotsAndImage(town);
        refusals(town);
        D.end();
    }

    private static void clerks(NoZeroWithin town) {
        D.due("clerk(0, 0)", town.clerk(0, 0), 0);
        D.due("clerk(1, 0)", town.clerk(1, 0), 1);
        D.due("clerk(5, 0)", town.clerk(5, 0), 2);
        D.due("figure(0, 20, 0)", town.figure(0, 20, 0), 2);
        D.due("figure(0, 20, 1)", town.figure(0, 20, 1), 1);
        D.due("figure(0, 20, 2)", town.figure(0, 20, 2), 10);
        D.due("reads(100, 12)", town.reads(100, 12), 21);
        D.due("plain(2, 20)", town.plain(2, 20), 22);
    }

    private static void texts(NoZeroWithin town) {
        D.due("a text", Due.say(town, "nought 2; slips 30; costs off * off;"), 1);
        D.due("force(1)", town.force(1), 0);
        D.due("asks(2, 0, 7, 5)", town.asks(2, 0, 7, 5), 25);
        D.due("a fault", Due.say(town, "nought zero;"), -107);
    }

    private static void books(NoZeroWithin town) {
        D.due("sheet(0, 2, 3)", town.sheet(0, 2, 3), 1);
        D.due("cell(0, 1, 40)", town.cell(0, 1, 40), 1);
        D.due("book(0, 0, 0)", town.book(0, 0, 0), 44);
        D.due("book(0, 0, 1)", town.book(0, 0, 1), 40);
        D.due("book(0, 0, 3)", town.book(0, 0, 3), 16);
        D.due("who(0, 0)", town.who(0, 0), 2);
        D.due("film(1, 2, 95, 105)", town.film(1, 2, 95, 105), 5);
        D.due("whose(1)", town.whose(1), 1 << 2);
        D.due("judge(1, 0)", town.judge(1, 0), 0);
        D.due("kinds(1, 0, 0)", town.kinds(1, 0, 0), 1 << 5);
    }

    private static void debts(NoZeroWithin town) {
        D.due("lend(3, 4, 50)", town.lend(3, 4, 50), 0);
        D.due("lend(4, 3, 20)", town.lend(4, 3, 20), 0);
        D.due("pay(0, 34, 50)", town.pay(0, 34, 50), 2);
        D.due("rings()", town.rings(), 1 << 3 | 1 << 4);
        D.due("forgive(0)", town.forgive(0), 34);
        D.due("clear()", town.clear(), 4);
    }

    private static void years(NoZeroWithin town) {
        D.due("span(-1, 1)", town.span(-1, 1), 1);
        D.due("behind(-3, 5)", town.behind(-3, 5), 3);
    }

    private static void lotsAndImage(NoZeroWithin town) {
        D.due("image()", town.image(), 3);
        D.due("drawn(7, 0, 777)", town.drawn(7, 0, 777), 778);
        D.due("odds(5, 40, 0, 777, 0)", town.odds(5, 40, 0, 777, 0), 1);
        D.due("odds(5, 40, 0, 777, 1)", town.odds(5, 40, 0, 777, 1), 4);
        D.due("clerk(4, 9)", town.clerk(4, 9), 3);
        D.due("back()", town.back(), 3);
    }

    private static void refusals(NoZeroWithin town) {
        D.due("figure(3, 20, 0)", town.figure(3, 20, 0), -5);
        D.due("figure(0, 100000, 0)", town.figure(0, 100000, 0), -7);
        D.due("force(6)", town.force(6), NoZeroWithin.BAD);
        D.due("cell(0, 3, 1)", town.cell(0, 3, 1), -12);
        D.due("span(0, 1)", town.span(0, 1), -100000);
        D.due("odds(0, 61, 0, 1, 0)", town.odds(0, 61, 0, 1, 0), NoZeroWithin.NO);
    }
}
