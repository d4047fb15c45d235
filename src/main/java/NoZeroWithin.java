import java.util.Arrays;

/** A town that writes numbers without a nought: ../shared/DOC.md tells what each call promises. */
public final class NoZeroWithin {
    public static final int NONE = -1, BAD = -2, STATE = -3, FULL = -4;
    public static final long NO = -4611686018427387904L;

    private static final int NO_SUCH = -5, NO_SUCH_CLERK = -6, NOT_AS_TOLD = -7;
    private static final int MISSING = -11, OUTSIDE = -12, UNLIKE = -13, BELOW_ZERO = -14;
    private static final int NO_YEAR = -100000, YEAR_OUTSIDE = -100001;
    private static final int YEAR_NO_CLERK = -100005, YEAR_NOT_AS_TOLD = -100007;
    private static final int FAULT_FROM = -100;

    private static final int BASE_LEAST = 2, BASE_MOST = 12;
    private static final int YEAR_MOST = 999, NEXT_YEARS_MOST = 200, BEHIND_MOST = 3000;
    private static final int CLERKS_MOST = 5, KIND_MOST = 5, MORE_MOST = 9;
    private static final int NUMBER_MOST = 99999, SMALL_MOST = 999, PER_CENT = 100;
    private static final int TEXTS_MOST = 6, TAPE_MOST = 160, BYTE_MOST = 255, FEED_MOST = 5;
    private static final int SHEETS = 4, SHEET_MOST = 40, FILM_MOST = 20, FIGURES_ASKED_MOST = 40;
    private static final int FOLK = 6, DEBT_MOST = 9999;
    private static final int SEEDS_MOST = 60;
    private static final long SURE_WHOLE = 1000000000L, FILM_NUMBER_MOST = 2147483647L;

    private static final int CLERK = 0, TURNED_ONE = 1, KINDLY = 2, SHORT = 3, GENEROUS = 4, STRANGER = 5;
    private static final int ONE_OF_FOLK = 6;
    private static final int[] KIND_ABOVE = {-1, CLERK, CLERK, TURNED_ONE, KINDLY, CLERK};

    private static final int NOUGHT_PART = 0, SLIPS_PART = 1, COSTS_PART = 2;

    /* A token that is a NUMBER is that number; all others are below 0, the NAMES first. */
    private static final int NAME_MORE = -1, NAME_CLERK = -2, NAME_V = -3;
    private static final int NAME_OFF = -4, NAME_BASE = -5, NAME_YEAR = -6;
    private static final int OR = -11, AND = -12, NOT = -13, LESS = -14, LIKE = -15;
    private static final int PLUS = -16, MINUS = -17, TIMES = -18, NEGATE = -19;
    private static final int OPEN = -20, CLOSE = -21, SEMICOLON = -22;
    private static final int NOUGHT = -23, SLIPS = -24, COSTS = -25, END = -26, WRONG = -27;

    private int base = 10;
    private int year = 1;
    private int clerks;
    private final int[] kindOf = new int[CLERKS_MOST];
    private final int[] moreOf = new int[CLERKS_MOST];
    private final Text firstText = new Text(new int[] {1, 3, NAME_OFF}, 1, 2);
    private final Text[] texts = new Text[TEXTS_MOST];
    private int textCount = 1;
    private int lawNumber;
    private final Tape tape = new Tape();
    private final Sheet[] sheets = new Sheet[SHEETS];
    private final Debts debts = new Debts();
    private final Image kept = new Image();
    private final Hand hand = new Hand(firstText);

    public NoZeroWithin() {
        texts[0] = firstText;
        for (int s = 0; s < sheets.length; s++) {
            sheets[s] = new Sheet();
        }
    }

    // ---- the town, the law

    public int count(int what) {
        switch (what) {
            case 0: return clerks;
            case 1: return base;
            case 2: return year;
            case 3: return textCount;
            case 4: return lawNumber;
            case 5: return tape.size();
            default: return BAD;
        }
    }

    public int set(int what, int v) {
        if (what != 0 && what != 1) {
            return NO_SUCH;
        }
        if (what == 0 ? !isWithin(v, BASE_LEAST, BASE_MOST) : !isYear(v)) {
            return NOT_AS_TOLD;
        }
        int was = what == 0 ? base : year;
        if (what == 0) {
            base = v;
        } else {
            year = v;
        }
        return was;
    }

    public int feed(int n, int a, int b, int c, int d, int e) {
        if (!isWithin(n, 1, FEED_MOST) || !isByte(a) || !isByte(b) || !isByte(c) || !isByte(d) || !isByte(e)) {
            return BAD;
        }
        if (tape.size() > TAPE_MOST - n) {
            return FULL;
        }
        tape.append(a);
        if (n > 1) {
            tape.append(b);
        }
        if (n > 2) {
            tape.append(c);
        }
        if (n > 3) {
            tape.append(d);
        }
        if (n > 4) {
            tape.append(e);
        }
        return tape.size();
    }

    public int text() {
        if (textCount >= TEXTS_MOST) {
            return FULL;
        }
        boolean isText = tape.isText();
        tape.becomeEmpty();
        if (!isText) {
            return FAULT_FROM - tape.faultPlace();
        }
        int number = textCount;
        texts[number] = tape.result();
        textCount++;
        return number;
    }

    public int force(int t) {
        if (!isWithin(t, 0, textCount - 1)) {
            return BAD;
        }
        int was = lawNumber;
        lawNumber = t;
        return was;
    }

    public int asks(int part, int c, int v, int off) {
        if (!isWithin(part, NOUGHT_PART, COSTS_PART) || !isClerk(c) || !isNumber(v) || !isNumber(off)) {
            return BAD;
        }
        return handOf(c).says(part, v, off);
    }

    // ---- clerks, writings

    public int clerk(int kind, int more) {
        if (!isWithin(kind, 0, KIND_MOST) || !isWithin(more, 0, MORE_MOST)) {
            return BAD;
        }
        if (clerks >= CLERKS_MOST) {
            return FULL;
        }
        int number = clerks;
        kindOf[number] = kind;
        moreOf[number] = more;
        clerks++;
        return number;
    }

    public int told(int c, int what) {
        if (!isClerk(c)) {
            return NO_SUCH;
        }
        switch (what) {
            case 0: return kindOf[c];
            case 1: return moreOf[c];
            case 2: return handOf(c).figures();
            case 3: return handOf(c).isTurned() ? 1 : 0;
            default: return NOT_AS_TOLD;
        }
    }

    public int figure(int c, int v, int what) {
        if (!isClerk(c)) {
            return NO_SUCH;
        }
        if (!isNumber(v) || !isWithin(what, 0, FIGURES_ASKED_MOST)) {
            return NOT_AS_TOLD;
        }
        Hand one = handOf(c);
        one.write(v);
        if (what == 0) {
            return one.many();
        }
        return what > one.many() ? NONE : one.written(what - 1);
    }

    public long reads(int readerWriter, int v) {
        int reader = readerWriter / 100;
        int writer = readerWriter % 100;
        if (!isClerk(reader) || !isClerk(writer)) {
            return NO_SUCH;
        }
        if (!isNumber(v)) {
            return NOT_AS_TOLD;
        }
        Hand readingOne = handOf(reader);
        int figures = readingOne.figures();
        boolean turned = readingOne.isTurned();
        Hand writingOne = handOf(writer);
        writingOne.write(v);
        return writingOne.readWith(figures, turned);
    }

    public long plain(int c, int v) {
        if (!isClerk(c)) {
            return NO_SUCH;
        }
        if (!isNumber(v)) {
            return NOT_AS_TOLD;
        }
        Hand one = handOf(c);
        one.write(v);
        return one.readPlainly();
    }

    // ---- sums, books

    public long adds(int c, int a, int b) {
        if (!isClerk(c)) {
            return NO_SUCH;
        }
        if (!isNumber(a) || !isNumber(b)) {
            return NOT_AS_TOLD;
        }
        Hand one = handOf(c);
        return (long) one.makes(a) + one.makes(b);
    }

    public int apart(int c, int more, int what) {
        if (!isClerk(c)) {
            return NO_SUCH;
        }
        if (!isWithin(more, 0, SMALL_MOST) || !isTwofold(what)) {
            return NOT_AS_TOLD;
        }
        Hand one = handOf(c);
        for (int v = 0; v <= SMALL_MOST; v++) {
            int other = v + more;
            int far = Math.abs(one.makes(v) + one.makes(other) - (v + other));
            if (far != 0) {
                return what == 0 ? v : far;
            }
        }
        return what == 0 ? NONE : 0;
    }

    public long book(int s, int c, int what) {
        int refused = refusalOfBook(s);
        if (refused != 0) {
            return refused;
        }
        if (!isClerk(c)) {
            return NO_SUCH;
        }
        if (!isWithin(what, 0, 3)) {
            return NOT_AS_TOLD;
        }
        Sheet told = sheetAt(s);
        Hand one = handOf(c);
        long his = madeOf(told, one);
        long ours = oursOf(told);
        long far = Math.abs(his - ours);
        switch (what) {
            case 0: return his;
            case 1: return ours;
            case 2: return far;
            default: return one.says(COSTS_PART, (int) Math.min(ours, NUMBER_MOST), (int) Math.min(far, NUMBER_MOST));
        }
    }

    public long who(int s, int what) {
        int refused = refusalOfBook(s);
        if (refused != 0) {
            return refused;
        }
        if (!isTwofold(what)) {
            return NOT_AS_TOLD;
        }
        Sheet told = sheetAt(s);
        long ours = oursOf(told);
        int best = NONE;
        long least = NONE;
        for (int c = 0; c < clerks; c++) {
            long far = Math.abs(madeOf(told, handOf(c)) - ours);
            if (best == NONE || far < least) {
                best = c;
                least = far;
            }
        }
        return what == 0 ? best : least;
    }

    public long smuggled(int s, int c, int what) {
        int refused = refusalOfBookBy(s, c);
        if (refused != 0) {
            return refused;
        }
        if (!isTwofold(what)) {
            return NOT_AS_TOLD;
        }
        Sheet told = sheetAt(s);
        Hand one = handOf(c);
        long beyond = madeOf(told, one) - oursOf(told) + one.makes(0);
        int best = NONE;
        long least = NONE;
        for (int i = 0; i < told.size(); i++) {
            long far = Math.abs(beyond - one.makes(told.at(i)));
            if (best == NONE || far < least) {
                best = i;
                least = far;
            }
        }
        return what == 0 ? best : least;
    }

    public long slip(int c, int v, int what) {
        if (!isClerk(c)) {
            return NO_SUCH;
        }
        if (!isNumber(v) || !isTwofold(what)) {
            return NOT_AS_TOLD;
        }
        Hand one = handOf(c);
        one.write(v);
        long meant = one.readHimself();
        int best = NONE;
        long most = 0;
        for (int i = 0; i < one.many(); i++) {
            int right = one.written(i);
            one.slipAt(i);
            long change = Math.abs(one.readHimself() - meant);
            one.putBack(i, right);
            if (best == NONE || change > most) {
                best = i;
                most = change;
            }
        }
        return what == 0 ? best : most;
    }

    public long sure(int c, int v) {
        if (!isClerk(c)) {
            return NO_SUCH;
        }
        if (!isNumber(v)) {
            return NOT_AS_TOLD;
        }
        Hand one = handOf(c);
        one.write(v);
        long right = PER_CENT - one.says(SLIPS_PART, v, 0);
        long sure = SURE_WHOLE;
        for (int i = 0; i < one.many(); i++) {
            sure = sure * right / PER_CENT;
        }
        return sure;
    }

    public int shortest(int s, int c, int what) {
        int refused = refusalOfBookBy(s, c);
        if (refused != 0) {
            return refused;
        }
        if (!isTwofold(what)) {
            return NOT_AS_TOLD;
        }
        Sheet told = sheetAt(s);
        Hand one = handOf(c);
        int best = NONE;
        int fewest = NONE;
        for (int b = BASE_LEAST; b <= BASE_MOST; b++) {
            one.liveBy(b, year, textAt(lawNumber));
            int many = figuresFor(told, one);
            if (best == NONE || many < fewest) {
                best = b;
                fewest = many;
            }
        }
        return what == 0 ? best : fewest;
    }

    private static int figuresFor(Sheet told, Hand one) {
        int many = 0;
        for (int i = 0; i < told.size(); i++) {
            one.write(told.at(i));
            many += one.many();
        }
        return many;
    }

    private static long madeOf(Sheet told, Hand one) {
        long sum = 0;
        for (int i = 0; i < told.size(); i++) {
            sum += one.makes(told.at(i));
        }
        return sum;
    }

    private static long oursOf(Sheet told) {
        long sum = 0;
        for (int i = 0; i < told.size(); i++) {
            sum += told.at(i);
        }
        return sum;
    }

    /** 0, if a sheet tells a book. */
    private int refusalOfBook(int s) {
        int refused = refusalOfSheet(s);
        if (refused != 0) {
            return refused;
        }
        Sheet told = sheetAt(s);
        for (int i = 0; i < told.size(); i++) {
            if (!isNumber(told.at(i))) {
                return BAD;
            }
        }
        return 0;
    }

    private int refusalOfBookBy(int s, int c) {
        int refused = refusalOfBook(s);
        if (refused != 0) {
            return refused;
        }
        return isClerk(c) ? 0 : NO_SUCH;
    }

    // ---- debts

    public int lend(int f, int g, int much) {
        if (!areTwoFolk(f, g)) {
            return NO_SUCH;
        }
        if (!isWithin(much, 0, DEBT_MOST)) {
            return NOT_AS_TOLD;
        }
        int was = debts.of(f, g);
        debts.become(f, g, much);
        return was;
    }

    public int debt(int f, int g) {
        return areTwoFolk(f, g) ? debts.of(f, g) : NO_SUCH;
    }

    public int pay(int c, int fg, int much) {
        if (!isClerk(c)) {
            return NO_SUCH_CLERK;
        }
        int f = fg / 10;
        int g = fg % 10;
        if (!areTwoFolk(f, g)) {
            return NO_SUCH;
        }
        if (!isWithin(much, 0, DEBT_MOST)) {
            return NOT_AS_TOLD;
        }
        int left = debts.of(f, g) - much;
        if (left < 0) {
            return STATE;
        }
        if (left == 0) {
            left = Math.min(handOf(c).makes(0), DEBT_MOST);
        }
        debts.become(f, g, left);
        return left;
    }

    public int rings() {
        return debts.ringBits();
    }

    public int clear() {
        return debts.clearPairs() + debts.clearThrees();
    }

    public int forgive(int what) {
        if (!isTwofold(what)) {
            return BAD;
        }
        int best = NONE;
        int fewest = Integer.bitCount(debts.ringBits());
        for (int f = 0; f < FOLK; f++) {
            for (int g = 0; g < FOLK; g++) {
                int many = debts.ringFolkWithout(f, g);
                if (many < fewest) {
                    fewest = many;
                    best = 10 * f + g;
                }
            }
        }
        return what == 0 ? best : fewest;
    }

    // ---- years

    public int span(int from, int to) {
        if (!isYear(from) || !isYear(to)) {
            return NO_YEAR;
        }
        return placeOfYear(to) - placeOfYear(from);
    }

    public int behind(int from, int years) {
        if (!isYear(from) || !isWithin(years, -BEHIND_MOST, BEHIND_MOST)) {
            return NO_YEAR;
        }
        int there = yearAtPlace(placeOfYear(from) + years);
        return isYear(there) ? there : YEAR_OUTSIDE;
    }

    public int alike(int c, int years, int what) {
        if (!isClerk(c)) {
            return YEAR_NO_CLERK;
        }
        if (!isWithin(years, 1, NEXT_YEARS_MOST) || !isTwofold(what)) {
            return YEAR_NOT_AS_TOLD;
        }
        Hand one = handOf(c);
        int wanted = lastFigureOf(one, year);
        int first = YEAR_OUTSIDE;
        int many = 0;
        for (int k = 1; k < years; k++) {
            int there = yearAtPlace(placeOfYear(year) + k);
            if (isYear(there) && lastFigureOf(one, there) == wanted) {
                if (many == 0) {
                    first = there;
                }
                many++;
            }
        }
        return what == 0 ? many : first;
    }

    private static int lastFigureOf(Hand one, int ofYear) {
        one.write(Math.abs(ofYear));
        return one.many() == 0 ? 0 : one.written(one.many() - 1);
    }

    /** Years on a line without a gap: 0 is the year 1, -1 the year -1. */
    private static int placeOfYear(int y) {
        return y > 0 ? y - 1 : y;
    }

    private static int yearAtPlace(int place) {
        return place >= 0 ? place + 1 : place;
    }

    // ---- told books

    public int judge(int s, int c) {
        int refused = refusalOfRowsBy(s, c);
        if (refused != 0) {
            return refused;
        }
        return firstOtherwise(sheetAt(s), handOf(c));
    }

    public int kinds(int s, int c, int sort) {
        int refused = refusalOfRowsBy(s, c);
        if (refused != 0) {
            return refused;
        }
        Sheet told = sheetAt(s);
        Hand one = handOf(c);
        int bits = 0;
        switch (sort) {
            case 0:
                for (int kind = 0; kind <= KIND_MOST; kind++) {
                    one.become(c, kind, moreOf[c]);
                    bits |= bitOf(kind, told, one);
                }
                return bits;
            case 1:
                for (int more = 0; more <= MORE_MOST; more++) {
                    one.become(c, kindOf[c], more);
                    bits |= bitOf(more, told, one);
                }
                return bits;
            case 2:
                for (int b = BASE_LEAST; b <= BASE_MOST; b++) {
                    one.liveBy(b, year, textAt(lawNumber));
                    bits |= bitOf(b, told, one);
                }
                return bits;
            default:
                return NOT_AS_TOLD;
        }
    }

    public int whose(int s) {
        int refused = refusalOfRows(s);
        if (refused != 0) {
            return refused;
        }
        int bits = 0;
        for (int c = 0; c < clerks; c++) {
            bits |= bitOf(c, sheetAt(s), handOf(c));
        }
        return bits;
    }

    public int laws(int s, int c) {
        int refused = refusalOfRowsBy(s, c);
        if (refused != 0) {
            return refused;
        }
        Hand one = handOf(c);
        int bits = 0;
        for (int t = 0; t < textCount; t++) {
            one.liveBy(base, year, textAt(t));
            bits |= bitOf(t, sheetAt(s), one);
        }
        return bits;
    }

    public int film(int s, int c, int from, int stepsMany) {
        if (!isSheet(s)) {
            return BAD;
        }
        if (!isClerk(c)) {
            return NO_SUCH;
        }
        int step = stepsMany / 100;
        int n = stepsMany % 100;
        if (!isWithin(from, 0, SMALL_MOST) || stepsMany < 0 || step > 99 || n > FILM_MOST) {
            return NOT_AS_TOLD;
        }
        Sheet film = sheetAt(s);
        Hand one = handOf(c);
        film.become(Sheet.INTS, 2 * n);
        for (int k = 0; k < n; k++) {
            int v = from + k * step;
            one.write(v);
            film.store(2 * k, v);
            film.store(2 * k + 1, (int) Math.min(one.readPlainly(), FILM_NUMBER_MOST));
        }
        return n;
    }

    private static int bitOf(int number, Sheet told, Hand one) {
        return firstOtherwise(told, one) == NONE ? 1 << number : 0;
    }

    private static int firstOtherwise(Sheet told, Hand one) {
        for (int row = 0; row < told.size() / 2; row++) {
            one.write(told.at(2 * row));
            if (one.readPlainly() != told.at(2 * row + 1)) {
                return row;
            }
        }
        return NONE;
    }

    /** 0, if a sheet tells rows of two. */
    private int refusalOfRows(int s) {
        int refused = refusalOfSheet(s);
        if (refused != 0) {
            return refused;
        }
        Sheet told = sheetAt(s);
        if (told.size() % 2 != 0) {
            return BAD;
        }
        for (int i = 0; i < told.size(); i += 2) {
            if (!isNumber(told.at(i))) {
                return BAD;
            }
        }
        return 0;
    }

    private int refusalOfRowsBy(int s, int c) {
        int refused = refusalOfRows(s);
        if (refused != 0) {
            return refused;
        }
        return isClerk(c) ? 0 : NO_SUCH;
    }

    // ---- slips by lots

    public long drawn(int seed, int c, int v) {
        if (!isClerk(c)) {
            return NO_SUCH;
        }
        if (!isNumber(seed) || !isNumber(v)) {
            return NOT_AS_TOLD;
        }
        Hand one = handOf(c);
        int slips = one.says(SLIPS_PART, v, 0);
        one.write(v);
        one.slipByLots(seed, slips);
        return one.readHimself();
    }

    public long odds(int seed, int seeds, int c, int v, int part) {
        boolean isAsTold = isNumber(seed) && isWithin(seeds, 1, SEEDS_MOST) && isNumber(v) && isTwofold(part);
        if (!isAsTold || !isClerk(c)) {
            return NO;
        }
        Hand one = handOf(c);
        int slips = one.says(SLIPS_PART, v, 0);
        one.write(v);
        long meant = one.readHimself();
        int alike = 0;
        for (int k = 0; k < seeds; k++) {
            one.write(v);
            one.slipByLots(seed + k, slips);
            if (one.readHimself() == meant) {
                alike++;
            }
        }
        int common = Math.max(1, commonDivisor(alike, seeds));
        return part == 0 ? alike / common : seeds / common;
    }

    private static int commonDivisor(int a, int b) {
        for (int d = Math.max(a, b); d > 1; d--) {
            if (a % d == 0 && b % d == 0) {
                return d;
            }
        }
        return 1;
    }

    public int image() {
        kept.keep(base, year, clerks, lawNumber, debts);
        return clerks;
    }

    public int back() {
        if (!kept.isThere()) {
            return STATE;
        }
        base = kept.base();
        year = kept.year();
        clerks = kept.clerks();
        lawNumber = kept.lawNumber();
        kept.restore(debts);
        return clerks;
    }

    // ---- the host

    public int sheet(int s, int sort, int n) {
        if (!isSheet(s) || !isWithin(sort, Sheet.NO_SORT, Sheet.INTS)) {
            return BAD;
        }
        Sheet one = sheetAt(s);
        if (sort == Sheet.NO_SORT) {
            one.become(Sheet.NO_SORT, 0);
            return 1;
        }
        if (n > SHEET_MOST) {
            return BAD;
        }
        if (n < 0) {
            return BELOW_ZERO;
        }
        one.become(sort, n);
        return 1;
    }

    public int cell(int s, int i, int v) {
        int refused = refusalOfSheet(s);
        if (refused != 0) {
            return refused;
        }
        Sheet one = sheetAt(s);
        if (!one.has(i)) {
            return OUTSIDE;
        }
        one.store(i, v);
        return 1;
    }

    public int copy(int s, int i, int other, int j, int n) {
        if (!isSheet(s) || !isSheet(other)) {
            return BAD;
        }
        Sheet source = sheetAt(s);
        Sheet goal = sheetAt(other);
        if (source.isMissing() || goal.isMissing()) {
            return MISSING;
        }
        if (source.sort() != goal.sort()) {
            return UNLIKE;
        }
        if (!source.hasRun(i, n) || !goal.hasRun(j, n)) {
            return OUTSIDE;
        }
        source.copyTo(goal, i, j, n);
        return n;
    }

    public int clerksBy(int s, int sort, int at, int n) {
        if (!isSheet(s) || !isWithin(sort, Sheet.BYTES, Sheet.INTS) || !isWithin(n, 0, CLERKS_MOST)) {
            return BAD;
        }
        Sheet told = sheetAt(s);
        if (told.isMissing()) {
            return MISSING;
        }
        if (told.sort() != sort) {
            return UNLIKE;
        }
        int came = 0;
        for (int k = 0; k < n; k++) {
            int place = at + 2 * k;
            if (!told.has(place) || !told.has(place + 1)) {
                return OUTSIDE;
            }
            if (clerk(told.at(place), told.at(place + 1)) >= 0) {
                came++;
            }
        }
        return came;
    }

    public int taken(int i, int kind) {
        if (!isWithin(kind, 0, ONE_OF_FOLK)) {
            return BAD;
        }
        if (!isWithin(i, 0, CLERKS_MOST + FOLK - 1)) {
            return OUTSIDE;
        }
        if (i >= CLERKS_MOST) {
            int owed = debts.allOf(i - CLERKS_MOST);
            if (owed == 0) {
                return MISSING;
            }
            return kind == ONE_OF_FOLK ? owed : UNLIKE;
        }
        if (!isClerk(i)) {
            return MISSING;
        }
        return isOfKind(kindOf[i], kind) ? i : UNLIKE;
    }

    // ---- what several calls ask

    private static boolean isWithin(int v, int least, int most) {
        return v >= least && v <= most;
    }

    private static boolean isNumber(int v) {
        return isWithin(v, 0, NUMBER_MOST);
    }

    private static boolean isByte(int v) {
        return isWithin(v, 0, BYTE_MOST);
    }

    private static boolean isTwofold(int what) {
        return what == 0 || what == 1;
    }

    private static boolean isYear(int v) {
        return v != 0 && isWithin(v, -YEAR_MOST, YEAR_MOST);
    }

    private static boolean isFolk(int f) {
        return isWithin(f, 0, FOLK - 1);
    }

    private static boolean areTwoFolk(int f, int g) {
        return isFolk(f) && isFolk(g) && f != g;
    }

    private static boolean isSheet(int s) {
        return isWithin(s, 0, SHEETS - 1);
    }

    private boolean isClerk(int c) {
        return c >= 0 && c < clerks && c < CLERKS_MOST;
    }

    private static boolean isOfKind(int kind, int wanted) {
        int above = kind;
        for (int step = 0; step < KIND_ABOVE.length && above >= 0 && above < KIND_ABOVE.length; step++) {
            if (above == wanted) {
                return true;
            }
            above = KIND_ABOVE[above];
        }
        return false;
    }

    private int refusalOfSheet(int s) {
        if (!isSheet(s)) {
            return BAD;
        }
        return sheetAt(s).isMissing() ? MISSING : 0;
    }

    private Sheet sheetAt(int s) {
        return sheets[isSheet(s) ? s : 0];
    }

    private Text textAt(int t) {
        Text found = t >= 0 && t < texts.length ? texts[t] : null;
        return found == null ? firstText : found;
    }

    /** A clerk as he is: one hand serves all, so that no call makes another. */
    private Hand handOf(int c) {
        int number = isClerk(c) ? c : 0;
        hand.become(number, kindOf[number], moreOf[number]);
        hand.liveBy(base, year, textAt(lawNumber));
        return hand;
    }

    /** One who writes and reads: a clerk as he is, or as he would be. */
    static final class Hand {
        private static final int MORE_AT = 0, CLERK_AT = 1, V_AT = 2, OFF_AT = 3, BASE_AT = 4, YEAR_AT = 5;
        private static final int NAMES = 6, STACK = 48, ROW_MOST = 40;
        private static final long READ_MOST = 999999999999L;
        private static final long LOT_TIMES = 48271L, LOT_MODULUS = 2147483647L;

        private int kind;
        private Text law;
        private final int[] names = new int[NAMES];
        private final int[] stack = new int[STACK];
        private final int[] row = new int[ROW_MOST];
        private int many;

        Hand(Text law) {
            this.law = law;
        }

        void become(int number, int newKind, int more) {
            kind = newKind;
            names[CLERK_AT] = number;
            names[MORE_AT] = more;
        }

        void liveBy(int base, int year, Text newLaw) {
            names[BASE_AT] = base;
            names[YEAR_AT] = year;
            law = newLaw;
        }

        int figures() {
            int base = names[BASE_AT];
            if (kind == SHORT) {
                return Math.max(2, base - names[MORE_AT] / 3);
            }
            return kind == STRANGER ? Math.max(2, base - 1) : base;
        }

        boolean isTurned() {
            return isOfKind(kind, TURNED_ONE);
        }

        int says(int part, int v, int off) {
            names[V_AT] = v;
            names[OFF_AT] = part == COSTS_PART ? off : 0;
            int said = law.reckon(part, names, stack);
            return Math.max(0, Math.min(said, part == SLIPS_PART ? PER_CENT : NUMBER_MOST));
        }

        int makes(int v) {
            if (v == 0 && kind == STRANGER) {
                return 0;
            }
            int made = v == 0 ? says(NOUGHT_PART, 0, 0) : v;
            if (v % 10 == 0 && isOfKind(kind, KINDLY)) {
                made++;
            }
            return kind == GENEROUS ? made + names[MORE_AT] : made;
        }

        /** The last figure is found first, so who writes turned has his row at once. */
        void write(int v) {
            int g = Math.max(2, figures());
            int left = makes(v);
            many = 0;
            while (left > 0 && many < row.length) {
                int last = (left - 1) % g + 1;
                row[many] = last;
                many++;
                left = (left - last) / g;
            }
            if (!isTurned()) {
                turnRow();
            }
        }

        private void turnRow() {
            for (int i = 0, j = many - 1; i < j && j < row.length; i++, j--) {
                int figure = row[i];
                row[i] = row[j];
                row[j] = figure;
            }
        }

        int many() {
            return many;
        }

        int written(int i) {
            return i >= 0 && i < many && i < row.length ? row[i] : 0;
        }

        void slipAt(int i) {
            int right = written(i);
            putBack(i, right < figures() ? right + 1 : right - 1);
        }

        void putBack(int i, int right) {
            if (i >= 0 && i < many && i < row.length) {
                row[i] = right;
            }
        }

        void slipByLots(int seed, int slips) {
            long lot = seed + 1L;
            for (int i = 0; i < many; i++) {
                lot = lot * LOT_TIMES % LOT_MODULUS;
                if (lot % PER_CENT < slips) {
                    slipAt(i);
                }
            }
        }

        long readWith(int g, boolean turned) {
            long value = 0;
            for (int i = 0; i < many; i++) {
                value = Math.min(value * g + written(turned ? many - 1 - i : i), READ_MOST);
            }
            return value;
        }

        long readHimself() {
            return readWith(figures(), isTurned());
        }

        long readPlainly() {
            return readWith(names[BASE_AT], false);
        }
    }

    /** A text that was read: its parts one behind the other, each with what joins two values behind both. */
    static final class Text {
        private final int[] code;
        private final int slipsAt;
        private final int costsAt;

        Text(int[] code, int slipsAt, int costsAt) {
            this.code = code;
            this.slipsAt = slipsAt;
            this.costsAt = costsAt;
        }

        int reckon(int part, int[] names, int[] stack) {
            int from = part == NOUGHT_PART ? 0 : part == SLIPS_PART ? slipsAt : costsAt;
            int to = part == NOUGHT_PART ? slipsAt : part == SLIPS_PART ? costsAt : code.length;
            int height = 0;
            for (int i = Math.max(0, from); i < to && i < code.length; i++) {
                int op = code[i];
                if (op >= NAME_YEAR) {
                    if (height < stack.length) {
                        stack[height] = op >= 0 ? op : nameValue(op, names);
                        height++;
                    }
                } else if (op == NOT || op == NEGATE) {
                    if (height >= 1) {
                        int value = stack[height - 1];
                        stack[height - 1] = op == NEGATE ? -value : value == 0 ? 1 : 0;
                    }
                } else if (height >= 2) {
                    height--;
                    stack[height - 1] = joined(op, stack[height - 1], stack[height]);
                }
            }
            return height == 1 ? stack[0] : 0;
        }

        private static int nameValue(int op, int[] names) {
            int at = NAME_MORE - op;
            return at >= 0 && at < names.length ? names[at] : 0;
        }

        private static int joined(int op, int x, int y) {
            switch (op) {
                case OR: return x != 0 || y != 0 ? 1 : 0;
                case AND: return x != 0 && y != 0 ? 1 : 0;
                case LESS: return x < y ? 1 : 0;
                case LIKE: return x == y ? 1 : 0;
                case PLUS: return x + y;
                case MINUS: return x - y;
                default: return x * y;
            }
        }
    }

    /** What was fed. It is read from left to right up to a token that can't stand: there is the fault. */
    static final class Tape {
        private static final int OPEN_MOST = 5, DIGITS_MOST = 4;

        private final int[] bytes = new int[TAPE_MOST];
        private int size;
        private int at;
        private int next;
        private int token;
        private final int[] code = new int[TAPE_MOST];
        private int codeSize;
        private int slipsAt;
        private int costsAt;

        int size() {
            return size;
        }

        void append(int b) {
            if (size >= 0 && size < bytes.length) {
                bytes[size] = b;
                size++;
            }
        }

        void becomeEmpty() {
            size = 0;
        }

        boolean isText() {
            next = 0;
            codeSize = 0;
            goOn();
            if (!isPart(NOUGHT)) {
                return false;
            }
            slipsAt = codeSize;
            if (!isPart(SLIPS)) {
                return false;
            }
            costsAt = codeSize;
            return isPart(COSTS) && token == END;
        }

        int faultPlace() {
            return at;
        }

        Text result() {
            return new Text(Arrays.copyOf(code, Math.max(0, Math.min(codeSize, code.length))), slipsAt, costsAt);
        }

        private boolean isPart(int key) {
            return isNext(key) && isE(0) && isNext(SEMICOLON);
        }

        /** Takes a token, if it is the wanted one. */
        private boolean isNext(int wanted) {
            if (token != wanted) {
                return false;
            }
            goOn();
            return true;
        }

        private boolean isE(int open) {
            if (!isAnd(open)) {
                return false;
            }
            for (int n = 0; n < TAPE_MOST && token == OR; n++) {
                goOn();
                if (!isAnd(open)) {
                    return false;
                }
                put(OR);
            }
            return true;
        }

        private boolean isAnd(int open) {
            if (!isNot(open)) {
                return false;
            }
            for (int n = 0; n < TAPE_MOST && token == AND; n++) {
                goOn();
                if (!isNot(open)) {
                    return false;
                }
                put(AND);
            }
            return true;
        }

        private boolean isNot(int open) {
            if (token == NOT) {
                if (open >= OPEN_MOST) {
                    return false;
                }
                goOn();
                if (!isNot(open + 1)) {
                    return false;
                }
                put(NOT);
                return true;
            }
            if (!isSum(open)) {
                return false;
            }
            int sign = token;
            if (sign == LESS || sign == LIKE) {
                goOn();
                if (!isSum(open)) {
                    return false;
                }
                put(sign);
            }
            return true;
        }

        private boolean isSum(int open) {
            if (!isTerm(open)) {
                return false;
            }
            for (int n = 0; n < TAPE_MOST && (token == PLUS || token == MINUS); n++) {
                int sign = token;
                goOn();
                if (!isTerm(open)) {
                    return false;
                }
                put(sign);
            }
            return true;
        }

        private boolean isTerm(int open) {
            if (!isOne(open)) {
                return false;
            }
            for (int n = 0; n < TAPE_MOST && token == TIMES; n++) {
                goOn();
                if (!isOne(open)) {
                    return false;
                }
                put(TIMES);
            }
            return true;
        }

        private boolean isOne(int open) {
            if (token >= NAME_YEAR) {
                put(token);
                goOn();
                return true;
            }
            if ((token != MINUS && token != OPEN) || open >= OPEN_MOST) {
                return false;
            }
            if (token == OPEN) {
                goOn();
                if (!isE(open + 1) || token != CLOSE) {
                    return false;
                }
                goOn();
                return true;
            }
            goOn();
            if (!isOne(open + 1)) {
                return false;
            }
            put(NEGATE);
            return true;
        }

        private void put(int op) {
            if (codeSize >= 0 && codeSize < code.length) {
                code[codeSize] = op;
                codeSize++;
            }
        }

        private void goOn() {
            at = next;
            while (at < size && isBlank(byteAt(at))) {
                at++;
            }
            next = at;
            int first = byteAt(at);
            if (at >= size) {
                token = END;
            } else if (isLetter(first)) {
                token = wordToken();
            } else if (isDigit(first)) {
                token = numberToken();
            } else {
                next++;
                token = signToken(first);
            }
        }

        private int wordToken() {
            while (next < size && isLetter(byteAt(next))) {
                next++;
            }
            if (isWord("more")) {
                return NAME_MORE;
            }
            if (isWord("clerk")) {
                return NAME_CLERK;
            }
            if (isWord("v")) {
                return NAME_V;
            }
            if (isWord("off")) {
                return NAME_OFF;
            }
            if (isWord("base")) {
                return NAME_BASE;
            }
            if (isWord("year")) {
                return NAME_YEAR;
            }
            if (isWord("nought")) {
                return NOUGHT;
            }
            if (isWord("slips")) {
                return SLIPS;
            }
            if (isWord("costs")) {
                return COSTS;
            }
            if (isWord("or")) {
                return OR;
            }
            if (isWord("and")) {
                return AND;
            }
            return isWord("not") ? NOT : WRONG;
        }

        private boolean isWord(String word) {
            if (next - at != word.length()) {
                return false;
            }
            for (int i = 0; i < word.length(); i++) {
                if (byteAt(at + i) != word.charAt(i)) {
                    return false;
                }
            }
            return true;
        }

        private int numberToken() {
            int value = 0;
            while (next < size && isDigit(byteAt(next))) {
                value = 10 * value + byteAt(next) - '0';
                next++;
            }
            return next - at > DIGITS_MOST ? WRONG : value;
        }

        private static int signToken(int sign) {
            switch (sign) {
                case '(': return OPEN;
                case ')': return CLOSE;
                case ';': return SEMICOLON;
                case '+': return PLUS;
                case '-': return MINUS;
                case '*': return TIMES;
                case '<': return LESS;
                case '=': return LIKE;
                default: return WRONG;
            }
        }

        private int byteAt(int i) {
            return i >= 0 && i < size && i < bytes.length ? bytes[i] : -1;
        }

        private static boolean isBlank(int b) {
            return b == 32 || b == 10;
        }

        private static boolean isLetter(int b) {
            return b >= 'a' && b <= 'z';
        }

        private static boolean isDigit(int b) {
            return b >= '0' && b <= '9';
        }
    }

    /** What each of folk owes each other one. */
    static final class Debts {
        private final int[] owed = new int[FOLK * FOLK];
        private final int[] reach = new int[FOLK];

        int of(int f, int g) {
            return isFolk(f) && isFolk(g) ? owed[FOLK * f + g] : 0;
        }

        void become(int f, int g, int much) {
            if (areTwoFolk(f, g)) {
                owed[FOLK * f + g] = much;
            }
        }

        int allOf(int f) {
            int sum = 0;
            for (int g = 0; g < FOLK; g++) {
                sum += of(f, g);
            }
            return sum;
        }

        int ringBits() {
            for (int f = 0; f < FOLK; f++) {
                reach[f] = 0;
                for (int g = 0; g < FOLK; g++) {
                    reach[f] |= of(f, g) > 0 ? 1 << g : 0;
                }
            }
            for (int by = 0; by < FOLK; by++) {
                for (int f = 0; f < FOLK; f++) {
                    reach[f] |= (reach[f] >> by & 1) == 1 ? reach[by] : 0;
                }
            }
            int bits = 0;
            for (int f = 0; f < FOLK; f++) {
                bits |= reach[f] & 1 << f;
            }
            return bits;
        }

        int ringFolkWithout(int f, int g) {
            int much = of(f, g);
            become(f, g, 0);
            int many = Integer.bitCount(ringBits());
            become(f, g, much);
            return many;
        }

        int clearPairs() {
            int less = 0;
            for (int f = 0; f < FOLK; f++) {
                for (int g = f + 1; g < FOLK; g++) {
                    int least = Math.min(of(f, g), of(g, f));
                    lower(f, g, least);
                    lower(g, f, least);
                    less += 2 * least;
                }
            }
            return less;
        }

        int clearThrees() {
            int less = 0;
            for (int f = 0; f < FOLK; f++) {
                for (int g = 0; g < FOLK; g++) {
                    for (int h = 0; h < FOLK; h++) {
                        less += clearThree(f, g, h);
                    }
                }
            }
            return less;
        }

        /** Nobody owes himself anything, so three that are not unlike clear nothing. */
        private int clearThree(int f, int g, int h) {
            int least = Math.min(of(f, g), Math.min(of(g, h), of(h, f)));
            lower(f, g, least);
            lower(g, h, least);
            lower(h, f, least);
            return 3 * least;
        }

        private void lower(int f, int g, int much) {
            become(f, g, of(f, g) - much);
        }

        void copyTo(Debts other) {
            System.arraycopy(owed, 0, other.owed, 0, owed.length);
        }
    }

    /** What the host keeps of a row of numbers, all of one sort. */
    static final class Sheet {
        static final int NO_SORT = -1, BYTES = 0, SHORTS = 1, INTS = 2;

        private final int[] numbers = new int[SHEET_MOST];
        private int sort = NO_SORT;
        private int size;

        void become(int newSort, int newSize) {
            sort = newSort;
            size = Math.max(0, Math.min(newSize, SHEET_MOST));
            Arrays.fill(numbers, 0);
        }

        boolean isMissing() {
            return sort == NO_SORT;
        }

        int sort() {
            return sort;
        }

        int size() {
            return size;
        }

        boolean has(int i) {
            return i >= 0 && i < size && i < numbers.length;
        }

        boolean hasRun(int from, int n) {
            return from >= 0 && n >= 0 && n <= size && from <= size - n;
        }

        int at(int i) {
            return has(i) ? numbers[i] : 0;
        }

        void store(int i, int v) {
            if (has(i)) {
                numbers[i] = sort == BYTES ? (byte) v : sort == SHORTS ? (short) v : v;
            }
        }

        void copyTo(Sheet goal, int from, int to, int n) {
            if (hasRun(from, n) && goal.hasRun(to, n)) {
                System.arraycopy(numbers, from, goal.numbers, to, n);
            }
        }
    }

    /** What is kept for a later way back. */
    static final class Image {
        private boolean there;
        private int base;
        private int year;
        private int clerks;
        private int lawNumber;
        private final Debts debts = new Debts();

        void keep(int newBase, int newYear, int newClerks, int newLawNumber, Debts newDebts) {
            there = true;
            base = newBase;
            year = newYear;
            clerks = newClerks;
            lawNumber = newLawNumber;
            newDebts.copyTo(debts);
        }

        void restore(Debts goal) {
            debts.copyTo(goal);
        }

        boolean isThere() {
            return there;
        }

        int base() {
            return base;
        }

        int year() {
            return year;
        }

        int clerks() {
            return clerks;
        }

        int lawNumber() {
            return lawNumber;
        }
    }
}
