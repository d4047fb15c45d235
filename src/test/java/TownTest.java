/** Promises 1 to 7: the town, its texts, the law. */
public final class TownTest {
    private static final Due D = new Due();

    public static void main(String[] args) {
        constants();
        newObject();
        setting();
        feeding();
        texts();
        reckoning();
        faults();
        openOnes();
        lawAndBounds();
        D.end();
    }

    private static void constants() {
        D.due("NONE", NoZeroWithin.NONE, -1);
        D.due("BAD", NoZeroWithin.BAD, -2);
        D.due("STATE", NoZeroWithin.STATE, -3);
        D.due("FULL", NoZeroWithin.FULL, -4);
        D.due("NO", NoZeroWithin.NO, -4611686018427387904L);
    }

    private static void newObject() {
        NoZeroWithin x = new NoZeroWithin();
        int[] due = {0, 10, 1, 1, 0, 0};
        for (int what = 0; what < due.length; what++) {
            D.due("new, count(" + what + ")", x.count(what), due[what]);
        }
        D.due("count(6)", x.count(6), -2);
        D.due("count(-1)", x.count(-1), -2);
        for (int f = 0; f < 6; f++) {
            for (int g = 0; g < 6; g++) {
                D.due("new, debt", x.debt(f, g), f == g ? -5 : 0);
            }
        }
        for (int s = 0; s < 4; s++) {
            D.due("new, sheet " + s + " is missing", x.cell(s, 0, 0), -11);
        }
        D.due("new, no image", x.back(), -3);
    }

    private static void setting() {
        NoZeroWithin x = new NoZeroWithin();
        D.due("set(0, 12)", x.set(0, 12), 10);
        D.due("set(0, 2)", x.set(0, 2), 12);
        D.due("set(0, 1)", x.set(0, 1), -7);
        D.due("set(0, 13)", x.set(0, 13), -7);
        D.due("count(1)", x.count(1), 2);
        D.due("set(1, -999)", x.set(1, -999), 1);
        D.due("set(1, 999)", x.set(1, 999), -999);
        D.due("set(1, 0)", x.set(1, 0), -7);
        D.due("set(1, 1000)", x.set(1, 1000), -7);
        D.due("set(1, -1000)", x.set(1, -1000), -7);
        D.due("set(1, least)", x.set(1, Integer.MIN_VALUE), -7);
        D.due("count(2)", x.count(2), 999);
        D.due("set(2, 5)", x.set(2, 5), -5);
        D.due("set(-1, 0)", x.set(-1, 0), -5);
    }

    private static void feeding() {
        NoZeroWithin x = new NoZeroWithin();
        D.due("feed n 0", x.feed(0, 0, 0, 0, 0, 0), -2);
        D.due("feed n 6", x.feed(6, 0, 0, 0, 0, 0), -2);
        for (int at = 0; at < 5; at++) {
            for (int b : new int[] {-1, 256}) {
                D.due("feed a bad byte", x.feed(1, at == 0 ? b : 0, at == 1 ? b : 0, at == 2 ? b : 0, at == 3 ? b : 0,
                    at == 4 ? b : 0), -2);
            }
        }
        D.due("feed 255", x.feed(2, 255, 0, 255, 255, 255), 2);
        D.due("feed 5", x.feed(5, 1, 2, 3, 4, 5), 7);
        for (int n = 12; n <= 157; n += 5) {
            D.due("feed on", x.feed(5, 32, 32, 32, 32, 32), n);
        }
        D.due("feed to 159", x.feed(2, 32, 32, 0, 0, 0), 159);
        D.due("feed too many", x.feed(2, 32, 32, 0, 0, 0), -4);
        D.due("BAD ahead of FULL", x.feed(5, 32, 32, 0, 0, 256), -2);
        D.due("none came", x.count(5), 159);
        D.due("feed the last", x.feed(1, 32, 0, 0, 0, 0), 160);
        D.due("feed one more", x.feed(1, 32, 0, 0, 0, 0), -4);
        D.due("a fault at the first", x.text(), -100);
        D.due("empty then", x.count(5), 0);

        NoZeroWithin y = new NoZeroWithin();
        String text = "nought 12 ; slips 3 ; costs off ; ";
        for (int i = 0; i + 5 <= 35; i += 5) {
            String part = (text + " ").substring(i, i + 5);
            y.feed(5, part.charAt(0), part.charAt(1), part.charAt(2), part.charAt(3), part.charAt(4));
        }
        D.due("fed by fives", y.text(), 1);
        y.force(1);
        y.clerk(0, 0);
        D.due("fed in their order", y.asks(0, 0, 0, 0), 12);

        for (int n = 1; n <= 5; n++) {
            D.due("so many come", new NoZeroWithin().feed(n, 9, 9, 9, 9, 9), n);
        }
    }

    private static void texts() {
        NoZeroWithin x = new NoZeroWithin();
        String good = "nought 1;slips 2;costs 3;";
        D.due("force(0)", x.force(0), 0);
        D.due("force(1) too early", x.force(1), -2);
        D.due("force(-1)", x.force(-1), -2);
        for (int t = 1; t <= 5; t++) {
            D.due("text " + t, Due.say(x, good), t);
        }
        D.due("FULL", Due.say(x, "nought"), -4);
        D.due("the tape stays", x.count(5), 6);
        D.due("FULL again", x.text(), -4);
        D.due("count(3)", x.count(3), 6);
        D.due("force(5)", x.force(5), 0);
        D.due("force(6)", x.force(6), -2);
        D.due("force(2)", x.force(2), 5);
        D.due("count(4)", x.count(4), 2);
    }

    /** What asks() says of a clerk of MORE 7, numbered 1, v 30, off 4, in base 10, in the year -5. */
    private static void says(String e, int part, long want) {
        NoZeroWithin x = new NoZeroWithin();
        x.clerk(0, 2);
        x.clerk(0, 7);
        x.set(1, -5);
        String[] parts = {"0", "0", "0"};
        parts[part] = e;
        int t = Due.say(x, "nought " + parts[0] + ";slips " + parts[1] + ";costs " + parts[2] + ";");
        D.due("text of " + e, t, 1);
        x.force(t);
        D.due("what " + e + " says", x.asks(part, 1, 30, 4), want);
    }

    private static void reckoning() {
        says("more", 0, 7);
        says("clerk", 0, 1);
        says("v", 0, 30);
        says("off", 0, 0);
        says("off", 1, 0);
        says("off", 2, 4);
        says("base", 0, 10);
        says("year", 0, 0);
        says("-year", 0, 5);
        says("0-year", 0, 5);
        says("v-more-clerk", 0, 22);
        says("2+3*4", 0, 14);
        says("(2+3)*4", 0, 20);
        says("2*3+4", 0, 10);
        says("20-5-4", 0, 11);
        says("20-5+4", 0, 19);
        says("--7", 0, 7);
        says("9*-1*-1", 0, 9);
        says("not 0", 0, 1);
        says("not 3", 0, 0);
        says("not not 3", 0, 1);
        says("5 or 0", 0, 1);
        says("1+(0 or 0)", 0, 1);
        says("1+(0 and 3)", 0, 1);
        says("1+(1 and 3)", 0, 2);
        says("1+(0-1 and 3)", 0, 2);
        says("0 or 0", 0, 0);
        says("0 or 0 or 9", 0, 1);
        says("5 and 6", 0, 1);
        says("5 and 0", 0, 0);
        says("1 or 0 and 0", 0, 1);
        says("(1 or 0) and 0", 0, 0);
        says("not 1 or 1", 0, 1);
        says("not 0 and 0", 0, 0);
        says("not 1 < 1", 0, 1);
        says("not 5 = 5", 0, 0);
        says("3 < 4", 0, 1);
        says("4 < 4", 0, 0);
        says("-4 < 4", 0, 1);
        says("4 = 4", 0, 1);
        says("4 = 3+1", 0, 1);
        says("2+2 < 3+2", 0, 1);
        says("4 = 5", 0, 0);
        says("(1<2)+(2<3)", 0, 2);
        says("(0-5 or 0)+1", 0, 2);
        says("0000", 0, 0);
        says("0012", 0, 12);
        says("9999", 0, 9999);
        // 9999 three times over itself wraps: 999700029999 modulo 2 to the 32nd is below 0.
        says("9999*9999*9999 < 0", 0, 9999 * 9999 * 9999 < 0 ? 1 : 0);
        says("9999*9999*9999*9999", 0, Math.max(0, Math.min(99999, 9999 * 9999 * 9999 * 9999)));
        // 46341 * 46341 passes 2147483647.
        says("(5*9268+1)*(5*9268+1) < 0", 0, 1);
        says("9999*10", 0, 99990);
        says("9999*10+10", 0, 99999);
        says("0-1", 0, 0);
        says("101", 1, 100);
        says("100", 1, 100);
        says("0-1", 1, 0);
        says("9999*11", 2, 99999);
        says("0-9", 2, 0);
        says("v*100+off", 2, 3004);
    }

    private static void fault(String text, int place) {
        NoZeroWithin x = new NoZeroWithin();
        D.due("fault of '" + text + "'", Due.say(x, text), place < 0 ? 1 : -100 - place);
        D.due("the tape is empty after '" + text + "'", x.count(5), 0);
        D.due("texts after '" + text + "'", x.count(3), place < 0 ? 2 : 1);
    }

    private static void faults() {
        fault("", 0);
        fault(" \n ", 3);
        fault("nought", 6);
        fault("nought ", 7);
        fault("nought 1", 8);
        fault("nought 1 ;", 10);
        fault("nought 1;slips 2;costs 3", 24);
        fault("nought 1;slips 2;costs 3;", -1);
        fault("\nnought 1;slips\n2;costs 3;  \n", -1);
        fault("nought1;slips2;costs3;", -1);
        fault("nought 1;slips 2;costs 3; 4", 26);
        fault("nought 1;slips 2;costs 3;;", 25);
        fault("slips 1;", 0);
        fault("nought 1;costs 2;", 9);
        fault("nought 1;slips 2;nought 3;", 17);
        fault("nought ;slips", 7);
        fault("nought 1 2;", 9);
        fault("nought 12345;", 7);
        fault("nought 00000;", 7);
        fault("nought 1234;slips", 17);
        fault("nought 12v;", 9);
        fault("nought vv;", 7);
        fault("nought noughts;", 7);
        fault("noughtv;", 0);
        fault("nought V;", 7);
        fault("nought v#;", 8);
        fault("nought v;#", 9);
        fault("nought #12345;", 7);
        fault("nought ;#", 7);
        fault("nought \t1;", 7);
        fault("nought 1\r;", 8);
        fault("nought \u00e9;", 7);
        fault("nought or 1;", 7);
        fault("nought 1 or;", 11);
        fault("nought 1 and and 1;", 13);
        fault("nought 1 not 1;", 9);
        fault("nought 1 + not 1;", 11);
        fault("nought - not 1;", 9);
        fault("nought 1 < not 1;", 11);
        fault("nought 1 < 2 < 3;", 13);
        fault("nought 1 = 2 < 3;", 13);
        fault("nought 1 = 2 = 3;", 13);
        fault("nought (1 = 2) = 3;slips", 24);
        fault("nought 1 + + 2;", 11);
        fault("nought + 2;", 7);
        fault("nought 1 * * 2;", 11);
        fault("nought 1 - - 2;slips", 20);
        fault("nought ();", 8);
        fault("nought (1;", 9);
        fault("nought (1", 9);
        fault("nought 1);", 8);
        fault("nought (1));", 10);
        fault("nought nought;", 7);
        fault("nought 1 v;", 9);
        fault("nought 1,2;", 8);
        fault("nought 1/2;", 8);
        fault("nought 1>2;", 8);
        fault("nought not;slips 0;costs 0;", 10);
        fault("nought -;slips 0;costs 0;", 8);
        fault("nought 1 or;slips 0;costs 0;", 11);
        fault("nought 1 and;slips 0;costs 0;", 12);
        fault("nought 1<;slips 0;costs 0;", 9);
        fault("nought 1=;slips 0;costs 0;", 9);
        fault("nought 1+;slips 0;costs 0;", 9);
        fault("nought 1*;slips 0;costs 0;", 9);
        fault("nought (1+);slips 0;costs 0;", 10);
        fault("nought z;", 7);
        fault("nought `;", 7);
        fault("nought {;", 7);
        fault("nought :;", 7);
        fault("nought xff;", 7);
        fault("nought /;", 7);
    }

    private static void openOnes() {
        fault("nought (((((1)))));slips", 24);
        fault("nought ((((((1))))));", 12);
        fault("nought not not not not not 1;slips", 34);
        fault("nought not not not not not not 1;", 27);
        fault("nought -----1;slips", 19);
        fault("nought ------1;", 12);
        fault("nought not(-(not 1));slips", 26);
        fault("nought not(-(not -1));", 17);
        fault("nought not(-(not (1)));", 17);
        fault("nought (((((1)))))+(((((2)))));slips", 36);
        fault("nought -----1-(2);slips", 23);
        fault("nought -----1*(2);slips", 23);
        fault("nought not not not not not 1 and (2);slips", 42);
        fault("nought not not not not not 1 + (2);", 31);
        fault("nought not not not not not 1 - 2;slips", 38);
        fault("nought not not not not not 1 < -2;", 31);
        fault("nought not not not not not 1 or not 2;slips", 43);
        fault("nought (((((1-2)))));slips", 26);
        fault("nought (((((-2)))));", 12);
        fault("nought (((((not 2)))));", 12);
    }

    private static void lawAndBounds() {
        NoZeroWithin x = new NoZeroWithin();
        x.clerk(0, 3);
        D.due("law 0, nought", x.asks(0, 0, 77, 9), 1);
        D.due("law 0, slips", x.asks(1, 0, 77, 9), 3);
        D.due("law 0, costs", x.asks(2, 0, 77, 9), 9);
        D.due("costs 99999", x.asks(2, 0, 99999, 99999), 99999);
        D.due("part 3", x.asks(3, 0, 0, 0), -2);
        D.due("part -1", x.asks(-1, 0, 0, 0), -2);
        D.due("no clerk 1", x.asks(0, 1, 0, 0), -2);
        D.due("no clerk -1", x.asks(0, -1, 0, 0), -2);
        D.due("v 100000", x.asks(0, 0, 100000, 0), -2);
        D.due("v -1", x.asks(0, 0, -1, 0), -2);
        D.due("off 100000", x.asks(0, 0, 0, 100000), -2);
        D.due("off -1", x.asks(0, 0, 0, -1), -2);
    }
}
