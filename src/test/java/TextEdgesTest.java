/** The edges of a TEXT: its tokens, its E, its FAULT, each under the document's own words. */
public final class TextEdgesTest {
    private static final Due D = new Due();

    public static void main(String[] args) {
        bytesAlone();
        bytesBehindNumber();
        bytesBehindWord();
        numbers();
        words();
        blanks();
        parts();
        endsTooEarly();
        firstFault();
        grammar();
        truths();
        wraps();
        open();
        openEnds();
        D.end();
    }

    /** place: of the FAULT; -1: it is a TEXT. */
    private static void fault(String sentence, String text, int place) {
        D.edge(sentence, "say " + text + " = " + (place < 0 ? 1 : -100 - place), "count(5) = 0", "count(3) = " + (place < 0 ? 2 : 1));
    }

    private static void e(String sentence, String e, int place) {
        fault(sentence, "nought " + e + ";slips 0;costs 0;", place < 0 ? -1 : 7 + place);
    }

    // ---- tokens

    /** Each byte that there is as all of an E. */
    private static void bytesAlone() {
        for (int b = 0; b < 256; b++) {
            char sign = (char) b;
            boolean isOne = sign == 'v' || sign >= '0' && sign <= '9';
            // Behind a blank, a ( and a - it is the ; that can't stand there.
            boolean goesOn = sign == ' ' || sign == '\n' || sign == '(' || sign == '-';
            e("a byte that begins none: byte " + b, "" + sign, isOne ? -1 : goesOn ? 1 : 0);
        }
    }

    /** Each byte that there is between two numbers. */
    private static void bytesBehindNumber() {
        for (int b = 0; b < 256; b++) {
            char sign = (char) b;
            boolean isText = sign >= '0' && sign <= '9' || sign == '+' || sign == '-' || sign == '*' || sign == '<' || sign == '=';
            boolean goesOn = sign == ' ' || sign == '\n' || sign == ';';
            e("SIGNS ( ) ; + - * < =: byte " + b, "1" + sign + "1", isText ? -1 : goesOn ? 2 : 1);
        }
    }

    /** Each byte that there is between two names. */
    private static void bytesBehindWord() {
        for (int b = 0; b < 256; b++) {
            char sign = (char) b;
            boolean isText = sign == '+' || sign == '-' || sign == '*' || sign == '<' || sign == '=';
            boolean goesOn = sign == ' ' || sign == '\n' || sign == ';';
            boolean isLetter = sign >= 'a' && sign <= 'z';
            e("WORDS (as many letters a .. z as stand there): byte " + b, "v" + sign + "v", isText ? -1 : goesOn ? 2 : isLetter ? 0 : 1);
        }
    }

    private static void numbers() {
        String tooLong = "NUMBERS (as many digits as stand there; more than 4 are too long)";
        e(tooLong, "0", -1);
        e(tooLong, "9999", -1);
        e(tooLong, "10000", 0);
        e(tooLong, "0000", -1);
        e(tooLong, "00000", 0);
        e(tooLong, "00001", 0);
        e(tooLong, "1+12345", 2);
        e(tooLong, "4294967297", 0);
        e(tooLong, "1".repeat(120), 0);
        e(tooLong, "1 2", 2);
        e("a NUMBER that is too long ahead of what else is wrong", "12345 x", 0);
        D.edge(tooLong, "say nought 0009;slips 09;costs 9999; = 1", "force(1)", "clerk(0, 0)", "asks(0, 0, 0, 0) = 9", "asks(1, 0, 0, 0) = 9",
            "asks(2, 0, 0, 0) = 9999");
    }

    private static void words() {
        String word = "of a WORD that is neither KEY nor NAME";
        for (String name : new String[] {"more", "clerk", "v", "off", "base", "year"}) {
            e("NAMES", name, -1);
            e(word, name + "s", 0);
            e(word, "a" + name, 0);
            e(word, name.toUpperCase(), 0);
            if (name.length() > 1) {
                e(word, name.substring(0, name.length() - 1), 0);
                e("a WORD in two", name.substring(0, 1) + " " + name.substring(1), name.charAt(0) == 'v' ? 2 : 0);
            }
        }
        for (String key : new String[] {"nought", "slips", "costs", "or", "and"}) {
            e("a KEY can't stand there", key, 0);
            e("a KEY can't stand there", "1+" + key, 2);
        }
        e("a KEY can't stand there", "1+not 1", 2);
        e("WORDS (as many letters a .. z as stand there)", "vv", 0);
        e("WORDS (as many letters a .. z as stand there)", "v v", 2);
        e("each as long as can be", "v1", 1);
        e("each as long as can be", "1v", 1);
        e("each as long as can be", "1and 1", -1);
        e("each as long as can be", "1and1", -1);
        e("each as long as can be", "1or1", -1);
        e("each as long as can be", "not1", -1);
        e("each as long as can be", "notv", 0);
        e("each as long as can be", "v or1", -1);
        e("each as long as can be", "vor 1", 0);
        e(word, "z".repeat(130), 0);
        fault("each as long as can be", "noughts 1;slips 0;costs 0;", 0);
        fault("each as long as can be", "nought1;slips0;costs0;", -1);
        fault("each as long as can be", "noughtv;slips 0;costs 0;", 0);
        fault(word, "nough 1;slips 0;costs 0;", 0);
        fault(word, "nought 1;slip 0;costs 0;", 9);
        fault(word, "nought 1;slips 0;cost 0;", 17);
    }

    private static void blanks() {
        String blank = "blanks (32, 10) may stand between";
        fault(blank, "nought 1;slips 0;costs 0;", -1);
        fault(blank, "nought\n1\n;\nslips\n0\n;\ncosts\n0\n;\n", -1);
        fault(blank, "   nought   1   ;   slips   0   ;   costs   0   ;   ", -1);
        fault(blank, "\n\n nought 1;slips 0;costs 0;", -1);
        fault(blank, "nought 1;slips 0;costs (v<2)+((1=1)*-2);", -1);
        fault(blank, "nought 1;slips 0;costs ( v < 2 ) + ( ( 1 = 1 ) * - 2 ) ;", -1);
        e(blank, "\t1", 0);
        e(blank, "1\r", 1);
        e(blank, "1\u00a0", 1);
        e(blank, "1\u0000", 1);
    }

    // ---- the FAULT

    private static void parts() {
        String text = "TEXT: nought E ; slips E ; costs E ;";
        fault(text, "slips 0;nought 1;costs 0;", 0);
        fault(text, "costs 0;nought 1;slips 0;", 0);
        fault(text, "1;slips 0;costs 0;", 0);
        fault(text, ";", 0);
        fault(text, "nought 1;costs 0;slips 0;", 9);
        fault(text, "nought 1;nought 1;costs 0;", 9);
        fault(text, "nought 1;;slips 0;costs 0;", 9);
        fault(text, "nought 1;slips 0;slips 0;", 17);
        fault(text, "nought 1;slips 0;nought 0;", 17);
        fault(text, "nought 1 slips 0;costs 0;", 9);
        fault(text, "nought 1;slips 0 costs 0;", 17);
        fault(text, "nought ;slips 0;costs 0;", 7);
        fault(text, "nought 1;slips ;costs 0;", 15);
        fault(text, "nought 1;slips 0;costs ;", 23);
        fault(text, "nought 1;slips 0;costs 0;;", 25);
        fault(text, "nought 1;slips 0;costs 0; nought", 26);
        fault(text, "nought 1;slips 0;costs 0;#", 25);
        fault(text, "nought 1;slips 0;costs 0; 99999", 26);
    }

    private static void endsTooEarly() {
        String early = "(the text's size, if it ends too early)";
        String whole = "nought(1+v)*2;slips not 0 or 3;costs-off<4;";
        D.edge(early, "say " + whole + " = 1");
        for (int size = 0; size < whole.length(); size++) {
            String cut = whole.substring(0, size);
            // Cut within a WORD it is another one: that is its FAULT.
            int word = size;
            while (word > 0 && Character.isLetter(cut.charAt(word - 1))) {
                word--;
            }
            String last = cut.substring(word);
            boolean isWord = last.isEmpty() || last.equals("nought") || last.equals("slips") || last.equals("costs") || last.equals("not")
                || last.equals("or") || last.equals("off") || last.equals("v");
            fault(early, cut, isWord ? size : word);
            if (isWord) {
                fault(early + " with blanks behind", cut + " \n ", size + 3);
            }
        }
    }

    private static void firstFault() {
        String first = "the place of the first byte of the first TOKEN that can't stand there";
        e(first, "+ #", 0);
        e(first, "# +", 0);
        e(first, "1 2 #", 2);
        e(first, "1 # 2", 2);
        e(first, "v xyz 12345", 2);
        e(first, "v 12345 xyz", 2);
        e(first, "(1 2) 3", 3);
        e(first, "  ) ", 2);
        e(first, "\n\nabc", 2);
        e(first, "1+nought", 2);
        e(first, "((((((1", 5);
        e(first, "((((( #", 6);
    }

    private static void grammar() {
        String not = "NOT: not NOT, or SUM, perhaps < or = and a SUM.";
        e(not, "1<2", -1);
        e(not, "1=2", -1);
        e(not, "1<2<3", 3);
        e(not, "1=2=3", 3);
        e(not, "1<2=3", 3);
        e(not, "1=2<3", 3);
        e(not, "(1<2)<3", -1);
        e(not, "1<(2<3)", -1);
        e(not, "1<not 2", 2);
        e(not, "not 1<2", -1);
        e(not, "not not 1", -1);
        e(not, "1 not 2", 2);
        e(not, "not", 3);
        e(not, "1<", 2);
        e(not, "<1", 0);
        String sum = "SUM: TERM { + or - TERM }. TERM: ONE { * ONE }. ONE: a NUMBER, a NAME, - ONE, ( E ).";
        e(sum, "1+2-3+4", -1);
        e(sum, "1*2*3", -1);
        e(sum, "1--2", -1);
        e(sum, "1+-2", -1);
        e(sum, "1*-2", -1);
        e(sum, "1++2", 2);
        e(sum, "1**2", 2);
        e(sum, "1-+2", 2);
        e(sum, "+1", 0);
        e(sum, "*1", 0);
        e(sum, "1+", 2);
        e(sum, "1*", 2);
        e(sum, "-", 1);
        e(sum, "-not 1", 1);
        e(sum, "()", 1);
        e(sum, "(1", 2);
        e(sum, "1)", 1);
        e(sum, "(1))", 3);
        e(sum, "(1)(2)", 3);
        e(sum, "(1 or 2)", -1);
        e(sum, "(not 1)", -1);
        e(sum, "v(1)", 1);
        String or = "E: AND { or AND }. AND: NOT { and NOT }.";
        e(or, "1 or 2 or 3", -1);
        e(or, "1 and 2 and 3", -1);
        e(or, "1 or 2 and 3 or 4", -1);
        e(or, "or 1", 0);
        e(or, "and 1", 0);
        e(or, "1 or", 4);
        e(or, "1 and", 5);
        e(or, "1 or or 2", 5);
        e(or, "1 or and 2", 5);
        e(or, "1 and not 2", -1);
    }

    // ---- what an E is

    /** What nought says of v, by an E of 0 .. 99999. */
    private static void is(String sentence, String e, int v, int want) {
        D.edge(sentence + ": " + e + ", v " + v, "say nought " + e + ";slips 0;costs 0; = 1", "force(1)", "clerk(0, 0)",
            "asks(0, 0, " + v + ", 0) = " + want);
    }

    private static void truths() {
        String truth = "of or, and, not, <, = 1 or 0 (what is not 0 is true)";
        is(truth, "v or 0", 7, 1);
        is(truth, "0 or v", 7, 1);
        is(truth, "v or v", 7, 1);
        is(truth, "v or v", 0, 0);
        is(truth, "-v or 0", 7, 1);
        is(truth, "0 or -v", 7, 1);
        is(truth, "v and v", 7, 1);
        is(truth, "-v and -v", 7, 1);
        // 1 and 2 have no bit in common.
        is(truth, "v and 1", 2, 1);
        is(truth, "v and 0", 2, 0);
        is(truth, "0 and v", 2, 0);
        is(truth, "not v", 0, 1);
        is(truth, "not v", 1, 0);
        is(truth, "not v", 2, 0);
        is(truth, "not -v", 2, 0);
        is(truth, "v<3", 2, 1);
        is(truth, "v<3", 3, 0);
        is(truth, "v<3", 4, 0);
        is(truth, "-v<-3", 4, 1);
        is(truth, "-v<-3", 3, 0);
        is(truth, "v=3", 3, 1);
        is(truth, "v=3", 2, 0);
        is(truth, "(v<9)+(v<9)", 3, 2);
        is(truth, "5*(v or 0)", 3, 5);
        is(truth, "1 or v and 0", 0, 1);
        is(truth, "not v and 0", 0, 0);
        is(truth, "not v = 1", 0, 1);
        is(truth, "1 < 2 and 3 < v", 4, 1);
        is(truth, "9-v-3", 2, 4);
        is(truth, "1+2*v", 5, 11);
        is(truth, "-v*-v", 5, 25);
        is(truth, "9--v", 5, 14);
    }

    /** 46340 times itself is 2147395600, 46341 times itself 2147488281; 32768 times itself, twice, 2147483648. */
    private static void wraps() {
        String wraps = "An E is an int (32 bits, wrapping)";
        is(wraps, "0<v*v", 46340, 1);
        is(wraps, "v*v<0", 46340, 0);
        is(wraps, "v*v<0", 46341, 1);
        is(wraps, "v*v=0", 65536, 1);
        is(wraps, "v*v", 65536, 0);
        is(wraps, "v*v+3", 65536, 3);
        // 99999 times itself less twice 4294967296 is 1409865409: 14 times 9999 times itself, 1014 times 9999, and 6409.
        is(wraps, "v*v-9999*9999*14-9999*1014", 99999, 6409);
        is(wraps, "v*v+v*v<0", 32768, 1);
        is(wraps, "0<v*v+v*v-1", 32768, 1);
        is(wraps, "v*v+v*v-1<0", 32768, 0);
        is(wraps, "-(v*v)-v*v<0", 32768, 1);
        is(wraps, "0<-(v*v)-v*v-1", 32768, 1);
        is(wraps, "-(v*v+v*v)<0", 32768, 1);
        is(wraps, "-(v*v+v*v)=v*v+v*v", 32768, 1);
        is(wraps, "v*v+v*v<v*v+v*v-1", 32768, 1);
        is(wraps, "v*v+v*v-1<v*v+v*v", 32768, 0);
        is(wraps, "(v*v+v*v)*-1<0", 32768, 1);
        is(wraps, "v*v*4=0", 32768, 1);
        is(wraps, "not v*v", 65536, 1);
        is(wraps, "v*v or 0", 65536, 0);
        is(wraps, "v*v and 1", 65536, 0);
        is(wraps, "v*v+v*v and 1", 32768, 1);
        is(wraps, "v*v*v*v", 99999, Math.max(0, Math.min(99999, 99999 * 99999 * 99999 * 99999)));
    }

    // ---- what is open

    private static void open() {
        String open = "a ( , a not, a - ahead of a ONE while 5 of these are open";
        e(open, "(((((1)))))", -1);
        e(open, "((((((1))))))", 5);
        e(open, "-----1", -1);
        e(open, "------1", 5);
        e(open, "not not not not not 1", -1);
        e(open, "not not not not not not 1", 20);
        e(open, "((((-1))))", -1);
        e(open, "(((((-1)))))", 5);
        e(open, "((((not 1))))", -1);
        e(open, "(((((not 1)))))", 5);
        e(open, "----(1)", -1);
        e(open, "-----(1)", 5);
        e(open, "not not not not (1)", -1);
        e(open, "not not not not not (1)", 20);
        e(open, "not not not not -1", -1);
        e(open, "not not not not not -1", 20);
        e(open, "not(-(not 1))", -1);
        e(open, "not(-(not(1)))", 9);
        e(open, "(((((1-2)))))", -1);
        e(open, "(((((1--2)))))", 7);
        e(open, "(((((1*-2)))))", 7);
        e(open, "(((((1+(2))))))", 7);
        e(open, "(((((1<-2)))))", 7);
        fault("a ( of slips, of costs while 5 are open", "nought (((((1)))));slips (((((1)))));costs (((((1)))));", -1);
        fault("a ( of slips while 5 are open", "nought 1;slips ((((((1))))));costs 1;", 20);
        fault("a ( of costs while 5 are open", "nought 1;slips 1;costs ((((((1))))));", 28);
    }

    private static void openEnds() {
        String till = "(a ( till its ) , not and - till what they belong to ends)";
        e(till, "(((((1)))))+(((((1)))))", -1);
        e(till, "(((((1)))))+((((((1))))))", 17);
        e(till, "((((((1)", 5);
        e(till, "((((1)+(1)*(1)<(1)or(1))))", -1);
        e(till, "-----1+-----1", -1);
        e(till, "-----1*-----1", -1);
        e(till, "-----1-(1)", -1);
        e(till, "-----1<-1", -1);
        e(till, "-----(1)", 5);
        e(till, "----(1)*-1", -1);
        e(till, "not not not not not 1 and (1)", -1);
        e(till, "not not not not not 1 or not 1", -1);
        e(till, "not not not not not 1 or -1", -1);
        e(till, "not not not not not 1 + (1)", 24);
        e(till, "not not not not not 1 * (1)", 24);
        e(till, "not not not not not 1 < (1)", 24);
        e(till, "not not not not not 1 = -1", 24);
        e(till, "not not not not not 1 - -1", 24);
        e(till, "not not not not not 1 - 1 < 1 * 1", -1);
        e(till, "not not not not 1 < (1)", -1);
        e(till, "not not not not 1 < ((1))", 21);
        fault(till, "nought not not not not not 1;slips not not not not not 1;costs -----1;", -1);
    }
}
