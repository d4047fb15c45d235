import java.util.ArrayList;
import java.util.Arrays;
import java.util.Collections;
import java.util.List;
import java.util.function.IntUnaryOperator;
import java.util.regex.Matcher;
import java.util.regex.Pattern;

/** The document once more, written plainly and with the whole library: ModelTest holds the program against it. */
public final class Model {
    static final long NO = -4611686018427387904L;
    static final List<String> NAMES = List.of("more", "clerk", "v", "off", "base", "year");
    static final List<String> KEYS = List.of("nought", "slips", "costs", "or", "and", "not");

    record Clerk(int kind, int more) {
    }

    /** All that a writing depends on. */
    record World(int base, int year, Expr[] law) {
    }

    interface Expr {
        int value(int[] names);
    }

    static final class Fault extends RuntimeException {
        final int place;

        Fault(int place) {
            this.place = place;
        }
    }

    record Kept(int base, int year, int[][] owes, int clerks, int law) {
    }

    record Token(String text, int place) {
    }

    int base = 10;
    int year = 1;
    int law = 0;
    int[][] owes = new int[6][6];
    final List<Clerk> clerks = new ArrayList<>();
    final List<Expr[]> texts = new ArrayList<>();
    String tape = "";
    Kept kept = null;
    final List<List<Integer>> sheets = new ArrayList<>(Collections.nCopies(4, null));
    final int[] sorts = new int[4];

    public Model() {
        texts.add(new Reading("nought 1 ; slips 3 ; costs off ;").whole());
    }

    static final class Reading {
        static final Pattern TOKEN = Pattern.compile("[ \n]*([a-z]+|[0-9]+|[^ \n])?", Pattern.DOTALL);
        final List<Token> tokens = new ArrayList<>();
        int next = 0;
        int open = 0;

        Reading(String text) {
            int at = 0;
            while (at < text.length()) {
                Matcher m = TOKEN.matcher(text);
                m.region(at, text.length());
                m.lookingAt();
                if (m.group(1) != null) {
                    tokens.add(new Token(m.group(1), m.start(1)));
                }
                at = m.end();
            }
            tokens.add(new Token("", text.length()));
        }

        boolean sees(String... those) {
            return Arrays.asList(those).contains(tokens.get(next).text);
        }

        Fault fault() {
            return new Fault(tokens.get(next).place);
        }

        String take(String... those) {
            if (!sees(those)) {
                throw fault();
            }
            return tokens.get(next++).text;
        }

        Expr[] whole() {
            Expr[] parts = new Expr[3];
            for (int i = 0; i < 3; i++) {
                take(KEYS.get(i));
                parts[i] = or();
                take(";");
            }
            take("");
            return parts;
        }

        Expr or() {
            Expr x = and();
            while (sees("or")) {
                take("or");
                Expr a = x, b = and();
                x = n -> a.value(n) != 0 | b.value(n) != 0 ? 1 : 0;
            }
            return x;
        }

        Expr and() {
            Expr x = not();
            while (sees("and")) {
                take("and");
                Expr a = x, b = not();
                x = n -> a.value(n) != 0 & b.value(n) != 0 ? 1 : 0;
            }
            return x;
        }

        void opens() {
            if (open == 5) {
                throw fault();
            }
            next++;
            open++;
        }

        Expr not() {
            if (sees("not")) {
                opens();
                Expr x = not();
                open--;
                return n -> x.value(n) == 0 ? 1 : 0;
            }
            Expr a = sum();
            if (sees("<")) {
                take("<");
                Expr b = sum();
                return n -> a.value(n) < b.value(n) ? 1 : 0;
            }
            if (sees("=")) {
                take("=");
                Expr b = sum();
                return n -> a.value(n) == b.value(n) ? 1 : 0;
            }
            return a;
        }

        Expr sum() {
            Expr x = term();
            while (sees("+", "-")) {
                int sign = take("+", "-").equals("+") ? 1 : -1;
                Expr a = x, b = term();
                x = n -> a.value(n) + sign * b.value(n);
            }
            return x;
        }

        Expr term() {
            Expr x = one();
            while (sees("*")) {
                take("*");
                Expr a = x, b = one();
                x = n -> a.value(n) * b.value(n);
            }
            return x;
        }

        Expr one() {
            String token = tokens.get(next).text;
            if (token.matches("[0-9]{1,4}")) {
                next++;
                int number = Integer.parseInt(token);
                return n -> number;
            }
            if (NAMES.contains(token)) {
                next++;
                int i = NAMES.indexOf(token);
                return n -> n[i];
            }
            if (sees("-")) {
                opens();
                Expr x = one();
                open--;
                return n -> -x.value(n);
            }
            if (sees("(")) {
                opens();
                Expr x = or();
                take(")");
                open--;
                return x;
            }
            throw fault();
        }
    }

    // ---- the town, the law

    World world() {
        return new World(base, year, texts.get(law));
    }

    public long count(int what) {
        int[] all = {clerks.size(), base, year, texts.size(), law, tape.length()};
        return what >= 0 && what < 6 ? all[what] : -2;
    }

    public long set(int what, int v) {
        if (what == 0) {
            if (v < 2 || v > 12) {
                return -7;
            }
            int was = base;
            base = v;
            return was;
        }
        if (what == 1) {
            if (!year(v)) {
                return -7;
            }
            int was = year;
            year = v;
            return was;
        }
        return -5;
    }

    public long feed(int n, int a, int b, int c, int d, int e) {
        int[] all = {a, b, c, d, e};
        if (n < 1 || n > 5 || Arrays.stream(all).anyMatch(x -> x < 0 || x > 255)) {
            return -2;
        }
        if (tape.length() + n > 160) {
            return -4;
        }
        for (int i = 0; i < n; i++) {
            tape += (char) all[i];
        }
        return tape.length();
    }

    public long text() {
        if (texts.size() == 6) {
            return -4;
        }
        String said = tape;
        tape = "";
        try {
            texts.add(new Reading(said).whole());
            return texts.size() - 1;
        } catch (Fault fault) {
            return -100 - fault.place;
        }
    }

    public long force(int t) {
        if (t < 0 || t >= texts.size()) {
            return -2;
        }
        int was = law;
        law = t;
        return was;
    }

    static int says(World w, int part, int c, int more, int v, int off) {
        int said = w.law[part].value(new int[] {more, c, v, part == 2 ? off : 0, w.base, w.year});
        return Math.min(Math.max(said, 0), part == 1 ? 100 : 99999);
    }

    int says(int part, int c, int v, int off) {
        return says(world(), part, c, clerks.get(c).more, v, off);
    }

    public long asks(int part, int c, int v, int off) {
        if (part < 0 || part > 2 || !clerk(c) || !number(v) || !number(off)) {
            return -2;
        }
        return says(part, c, v, off);
    }

    // ---- clerks, writings

    boolean clerk(int c) {
        return c >= 0 && c < clerks.size();
    }

    static boolean number(int v) {
        return v >= 0 && v <= 99999;
    }

    static boolean year(int v) {
        return v != 0 && Math.abs((long) v) <= 999;
    }

    static int figures(int base, Clerk k) {
        return switch (k.kind) {
            case 3 -> Math.max(2, base - k.more / 3);
            case 5 -> Math.max(2, base - 1);
            default -> base;
        };
    }

    static boolean turned(Clerk k) {
        return k.kind == 1 || k.kind == 3;
    }

    static int makes(World w, int c, Clerk k, int v) {
        int plain = v == 0 ? says(w, 0, c, k.more, 0, 0) : v;
        int tenth = v % 10 == 0 ? 1 : 0;
        return switch (k.kind) {
            case 2 -> plain + tenth;
            case 4 -> plain + tenth + k.more;
            case 5 -> v;
            default -> plain;
        };
    }

    /** The greatest figure first. */
    static List<Integer> greatestFirst(int n, int g) {
        if (n == 0) {
            return new ArrayList<>();
        }
        int last = n % g == 0 ? g : n % g;
        List<Integer> row = greatestFirst((n - last) / g, g);
        row.add(last);
        return row;
    }

    static List<Integer> writes(World w, int c, Clerk k, int v) {
        List<Integer> row = greatestFirst(makes(w, c, k, v), figures(w.base, k));
        if (turned(k)) {
            Collections.reverse(row);
        }
        return row;
    }

    List<Integer> writes(int c, int v) {
        return writes(world(), c, clerks.get(c), v);
    }

    static long read(List<Integer> written, int g, boolean turned) {
        List<Integer> row = new ArrayList<>(written);
        if (turned) {
            Collections.reverse(row);
        }
        long value = 0;
        for (int figure : row) {
            value = value * g + figure;
        }
        return Math.min(value, 999999999999L);
    }

    long readsHimself(int c, List<Integer> row) {
        Clerk k = clerks.get(c);
        return read(row, figures(base, k), turned(k));
    }

    public long clerk(int kind, int more) {
        if (kind < 0 || kind > 5 || more < 0 || more > 9) {
            return -2;
        }
        if (clerks.size() == 5) {
            return -4;
        }
        clerks.add(new Clerk(kind, more));
        return clerks.size() - 1;
    }

    public long told(int c, int what) {
        if (!clerk(c)) {
            return -5;
        }
        Clerk k = clerks.get(c);
        int[] all = {k.kind, k.more, figures(base, k), turned(k) ? 1 : 0};
        return what >= 0 && what < 4 ? all[what] : -7;
    }

    public long figure(int c, int v, int what) {
        if (!clerk(c)) {
            return -5;
        }
        if (!number(v) || what < 0 || what > 40) {
            return -7;
        }
        List<Integer> row = writes(c, v);
        return what == 0 ? row.size() : what > row.size() ? -1 : row.get(what - 1);
    }

    public long reads(int readerWriter, int v) {
        int reader = Math.floorDiv(readerWriter, 100), writer = Math.floorMod(readerWriter, 100);
        if (!clerk(reader) || !clerk(writer)) {
            return -5;
        }
        return number(v) ? readsHimself(reader, writes(writer, v)) : -7;
    }

    static long plain(World w, int c, Clerk k, int v) {
        return read(writes(w, c, k, v), w.base, false);
    }

    public long plain(int c, int v) {
        return !clerk(c) ? -5 : !number(v) ? -7 : plain(world(), c, clerks.get(c), v);
    }

    long makes(int c, int v) {
        return makes(world(), c, clerks.get(c), v);
    }

    // ---- sums, books

    public long adds(int c, int a, int b) {
        return !clerk(c) ? -5 : !number(a) || !number(b) ? -7 : makes(c, a) + makes(c, b);
    }

    public long apart(int c, int more, int what) {
        if (!clerk(c)) {
            return -5;
        }
        if (more < 0 || more > 999 || what < 0 || what > 1) {
            return -7;
        }
        for (int v = 0; v < 1000; v++) {
            long far = Math.abs(makes(c, v) + makes(c, v + more) - v - v - more);
            if (far > 0) {
                return what == 0 ? v : far;
            }
        }
        return what - 1;
    }

    int sheetRefused(int s) {
        return s < 0 || s > 3 ? -2 : sheets.get(s) == null ? -11 : 0;
    }

    int bookRefused(int s) {
        int refused = sheetRefused(s);
        return refused != 0 ? refused : sheets.get(s).stream().allMatch(Model::number) ? 0 : -2;
    }

    int bookRefused(int s, int c) {
        int refused = bookRefused(s);
        return refused != 0 ? refused : clerk(c) ? 0 : -5;
    }

    long made(int s, int c) {
        return sheets.get(s).stream().mapToLong(v -> makes(c, v)).sum();
    }

    long ours(int s) {
        return sheets.get(s).stream().mapToLong(v -> v).sum();
    }

    public long book(int s, int c, int what) {
        int refused = bookRefused(s, c);
        if (refused != 0) {
            return refused;
        }
        long far = Math.abs(made(s, c) - ours(s));
        return switch (what) {
            case 0 -> made(s, c);
            case 1 -> ours(s);
            case 2 -> far;
            case 3 -> says(2, c, (int) Math.min(99999, ours(s)), (int) Math.min(99999, far));
            default -> -7;
        };
    }

    /** The first of the least: its place (what 0), it (1); -1: there are none. */
    static long leastOf(List<Long> all, int what) {
        if (all.isEmpty()) {
            return -1;
        }
        long least = Collections.min(all);
        return what == 0 ? all.indexOf(least) : least;
    }

    public long who(int s, int what) {
        int refused = bookRefused(s);
        if (refused != 0) {
            return refused;
        }
        if (what != 0 && what != 1) {
            return -7;
        }
        List<Long> all = new ArrayList<>();
        for (int c = 0; c < clerks.size(); c++) {
            all.add(Math.abs(made(s, c) - ours(s)));
        }
        return leastOf(all, what);
    }

    public long smuggled(int s, int c, int what) {
        int refused = bookRefused(s, c);
        if (refused != 0) {
            return refused;
        }
        if (what != 0 && what != 1) {
            return -7;
        }
        long ours = ours(s);
        List<Integer> book = sheets.get(s);
        List<Long> all = new ArrayList<>();
        for (int i = 0; i < book.size(); i++) {
            int was = book.set(i, 0);
            all.add(Math.abs(made(s, c) - ours));
            book.set(i, was);
        }
        return leastOf(all, what);
    }

    static int slipped(int figure, int g) {
        return figure == g ? figure - 1 : figure + 1;
    }

    public long slip(int c, int v, int what) {
        if (!clerk(c)) {
            return -5;
        }
        if (!number(v) || what < 0 || what > 1) {
            return -7;
        }
        List<Integer> row = writes(c, v);
        List<Long> all = new ArrayList<>();
        for (int i = 0; i < row.size(); i++) {
            List<Integer> other = new ArrayList<>(row);
            other.set(i, slipped(row.get(i), figures(base, clerks.get(c))));
            all.add(-Math.abs(readsHimself(c, other) - readsHimself(c, row)));
        }
        return what == 0 ? leastOf(all, 0) : all.isEmpty() ? 0 : -leastOf(all, 1);
    }

    public long sure(int c, int v) {
        if (!clerk(c)) {
            return -5;
        }
        if (!number(v)) {
            return -7;
        }
        long sure = 1000000000;
        for (int figure : writes(c, v)) {
            sure = sure * (100 - says(1, c, v, 0)) / 100;
        }
        return sure;
    }

    public long shortest(int s, int c, int what) {
        int refused = bookRefused(s, c);
        if (refused != 0) {
            return refused;
        }
        if (what != 0 && what != 1) {
            return -7;
        }
        List<Long> all = new ArrayList<>();
        for (int b = 2; b <= 12; b++) {
            World w = new World(b, year, texts.get(law));
            all.add(sheets.get(s).stream().mapToLong(v -> writes(w, c, clerks.get(c), v).size()).sum());
        }
        return what == 0 ? leastOf(all, 0) + 2 : leastOf(all, 1);
    }

    // ---- debts

    static boolean folk(int f, int g) {
        return f >= 0 && f < 6 && g >= 0 && g < 6 && f != g;
    }

    public long lend(int f, int g, int much) {
        if (!folk(f, g)) {
            return -5;
        }
        if (much < 0 || much > 9999) {
            return -7;
        }
        int was = owes[f][g];
        owes[f][g] = much;
        return was;
    }

    public long debt(int f, int g) {
        return folk(f, g) ? owes[f][g] : -5;
    }

    public long pay(int c, int fg, int much) {
        if (!clerk(c)) {
            return -6;
        }
        int f = Math.floorDiv(fg, 10), g = Math.floorMod(fg, 10);
        if (!folk(f, g)) {
            return -5;
        }
        if (much < 0 || much > 9999) {
            return -7;
        }
        if (much > owes[f][g]) {
            return -3;
        }
        owes[f][g] -= much;
        if (owes[f][g] == 0) {
            owes[f][g] = (int) Math.min(9999, makes(c, 0));
        }
        return owes[f][g];
    }

    boolean comesTo(int from, int to, int steps) {
        for (int g = 0; g < 6 && steps > 0; g++) {
            if (owes[from][g] > 0 && (g == to || comesTo(g, to, steps - 1))) {
                return true;
            }
        }
        return false;
    }

    public long rings() {
        long bits = 0;
        for (int f = 0; f < 6; f++) {
            bits |= comesTo(f, f, 6) ? 1L << f : 0;
        }
        return bits;
    }

    long all() {
        return Arrays.stream(owes).flatMapToInt(Arrays::stream).sum();
    }

    public long clear() {
        long before = all();
        for (int f = 0; f < 6; f++) {
            for (int g = f + 1; g < 6; g++) {
                int less = Math.min(owes[f][g], owes[g][f]);
                owes[f][g] -= less;
                owes[g][f] -= less;
            }
        }
        for (int f = 0; f < 6; f++) {
            for (int g = 0; g < 6; g++) {
                for (int h = 0; h < 6; h++) {
                    if (f != g && g != h && h != f) {
                        int less = Math.min(owes[f][g], Math.min(owes[g][h], owes[h][f]));
                        owes[f][g] -= less;
                        owes[g][h] -= less;
                        owes[h][f] -= less;
                    }
                }
            }
        }
        return before - all();
    }

    public long forgive(int what) {
        if (what != 0 && what != 1) {
            return -2;
        }
        long now = Long.bitCount(rings());
        long fewest = now;
        long which = -1;
        for (int fg = 0; fg < 56; fg++) {
            if (folk(fg / 10, fg % 10) && owes[fg / 10][fg % 10] > 0) {
                int was = owes[fg / 10][fg % 10];
                owes[fg / 10][fg % 10] = 0;
                long then = Long.bitCount(rings());
                owes[fg / 10][fg % 10] = was;
                if (then < fewest) {
                    fewest = then;
                    which = fg;
                }
            }
        }
        return what == 0 ? which : fewest;
    }

    // ---- years

    static int walk(int from, int steps) {
        int y = from;
        for (int i = 0; i < Math.abs(steps); i++) {
            y += Integer.signum(steps);
            if (y == 0) {
                y += Integer.signum(steps);
            }
        }
        return y;
    }

    public long span(int from, int to) {
        if (!year(from) || !year(to)) {
            return -100000;
        }
        int steps = 0;
        while (walk(from, from < to ? steps : -steps) != to) {
            steps++;
        }
        return from < to ? steps : -steps;
    }

    public long behind(int from, int years) {
        if (!year(from) || years < -3000 || years > 3000) {
            return -100000;
        }
        int y = walk(from, years);
        return year(y) ? y : -100001;
    }

    int lastFigure(int c, int y) {
        List<Integer> row = writes(c, Math.abs(y));
        return row.isEmpty() ? 0 : row.get(row.size() - 1);
    }

    public long alike(int c, int years, int what) {
        if (!clerk(c)) {
            return -100005;
        }
        if (years < 1 || years > 200 || what < 0 || what > 1) {
            return -100007;
        }
        List<Integer> found = new ArrayList<>();
        for (int k = 1; k <= years - 1; k++) {
            int y = walk(year, k);
            if (y <= 999 && lastFigure(c, y) == lastFigure(c, year)) {
                found.add(y);
            }
        }
        return what == 0 ? found.size() : found.isEmpty() ? -100001 : found.get(0);
    }

    // ---- told books

    int rowsRefused(int s) {
        int refused = sheetRefused(s);
        if (refused != 0) {
            return refused;
        }
        List<Integer> all = sheets.get(s);
        if (all.size() % 2 == 1) {
            return -2;
        }
        for (int i = 0; i < all.size(); i += 2) {
            if (!number(all.get(i))) {
                return -2;
            }
        }
        return 0;
    }

    int rowsRefused(int s, int c) {
        int refused = rowsRefused(s);
        return refused != 0 ? refused : clerk(c) ? 0 : -5;
    }

    int otherwise(int s, World w, int c, Clerk k) {
        List<Integer> all = sheets.get(s);
        for (int i = 0; i < all.size(); i += 2) {
            if (plain(w, c, k, all.get(i)) != all.get(i + 1)) {
                return i / 2;
            }
        }
        return -1;
    }

    static long bits(int least, int most, IntUnaryOperator otherwise) {
        long bits = 0;
        for (int i = least; i <= most; i++) {
            bits |= otherwise.applyAsInt(i) == -1 ? 1L << i : 0;
        }
        return bits;
    }

    public long judge(int s, int c) {
        int refused = rowsRefused(s, c);
        return refused != 0 ? refused : otherwise(s, world(), c, clerks.get(c));
    }

    public long kinds(int s, int c, int sort) {
        int refused = rowsRefused(s, c);
        if (refused != 0) {
            return refused;
        }
        Clerk k = clerks.get(c);
        return switch (sort) {
            case 0 -> bits(0, 5, i -> otherwise(s, world(), c, new Clerk(i, k.more)));
            case 1 -> bits(0, 9, i -> otherwise(s, world(), c, new Clerk(k.kind, i)));
            case 2 -> bits(2, 12, i -> otherwise(s, new World(i, year, texts.get(law)), c, k));
            default -> -7;
        };
    }

    public long whose(int s) {
        int refused = rowsRefused(s);
        return refused != 0 ? refused : bits(0, clerks.size() - 1, i -> otherwise(s, world(), i, clerks.get(i)));
    }

    public long laws(int s, int c) {
        int refused = rowsRefused(s, c);
        return refused != 0 ? refused
            : bits(0, texts.size() - 1, i -> otherwise(s, new World(base, year, texts.get(i)), c, clerks.get(c)));
    }

    public long film(int s, int c, int from, int stepsMany) {
        if (s < 0 || s > 3) {
            return -2;
        }
        if (!clerk(c)) {
            return -5;
        }
        if (from < 0 || from > 999 || stepsMany < 0 || stepsMany > 9920 || stepsMany % 100 > 20) {
            return -7;
        }
        sheets.set(s, new ArrayList<>());
        sorts[s] = 2;
        for (int i = 0; i < stepsMany % 100; i++) {
            int v = from + i * (stepsMany / 100);
            sheets.get(s).add(v);
            sheets.get(s).add((int) Math.min(Integer.MAX_VALUE, plain(c, v)));
        }
        return stepsMany % 100;
    }

    // ---- slips by lots

    long withLots(int seed, int c, int v) {
        List<Integer> row = writes(c, v);
        long lot = seed + 1;
        for (int i = 0; i < row.size(); i++) {
            lot = lot * 48271 % 2147483647;
            if (lot % 100 < says(1, c, v, 0)) {
                row.set(i, slipped(row.get(i), figures(base, clerks.get(c))));
            }
        }
        return readsHimself(c, row);
    }

    public long drawn(int seed, int c, int v) {
        return !clerk(c) ? -5 : !number(seed) || !number(v) ? -7 : withLots(seed, c, v);
    }

    public long odds(int seed, int seeds, int c, int v, int part) {
        if (!number(seed) || seeds < 1 || seeds > 60 || !clerk(c) || !number(v) || part < 0 || part > 1) {
            return NO;
        }
        int like = 0;
        for (int i = 0; i < seeds; i++) {
            like += withLots(seed + i, c, v) == readsHimself(c, writes(c, v)) ? 1 : 0;
        }
        int a = like, b = seeds;
        while (b != 0) {
            int rest = a % b;
            a = b;
            b = rest;
        }
        return part == 0 ? like / a : seeds / a;
    }

    static int[][] copyOf(int[][] all) {
        return Arrays.stream(all).map(int[]::clone).toArray(int[][]::new);
    }

    public long image() {
        kept = new Kept(base, year, copyOf(owes), clerks.size(), law);
        return clerks.size();
    }

    public long back() {
        if (kept == null) {
            return -3;
        }
        base = kept.base;
        year = kept.year;
        owes = copyOf(kept.owes);
        law = kept.law;
        while (clerks.size() > kept.clerks) {
            clerks.remove(clerks.size() - 1);
        }
        return clerks.size();
    }

    // ---- the host

    public long sheet(int s, int sort, int n) {
        if (s < 0 || s > 3 || sort < -1 || sort > 2) {
            return -2;
        }
        if (sort == -1) {
            sheets.set(s, null);
            return 1;
        }
        if (n > 40) {
            return -2;
        }
        if (n < 0) {
            return -14;
        }
        sheets.set(s, new ArrayList<>(Collections.nCopies(n, 0)));
        sorts[s] = sort;
        return 1;
    }

    public long cell(int s, int i, int v) {
        int refused = sheetRefused(s);
        if (refused != 0) {
            return refused;
        }
        if (i < 0 || i >= sheets.get(s).size()) {
            return -12;
        }
        sheets.get(s).set(i, sorts[s] == 0 ? (byte) v : sorts[s] == 1 ? (short) v : v);
        return 1;
    }

    public long copy(int s, int i, int other, int j, int n) {
        if (sheetRefused(s) == -2 || sheetRefused(other) == -2) {
            return -2;
        }
        if (sheets.get(s) == null || sheets.get(other) == null) {
            return -11;
        }
        if (sorts[s] != sorts[other]) {
            return -13;
        }
        boolean fits = i >= 0 && j >= 0 && n >= 0
            && (long) i + n <= sheets.get(s).size() && (long) j + n <= sheets.get(other).size();
        if (!fits) {
            return -12;
        }
        List<Integer> numbers = new ArrayList<>(sheets.get(s).subList(i, i + n));
        for (int k = 0; k < n; k++) {
            sheets.get(other).set(j + k, numbers.get(k));
        }
        return n;
    }

    public long clerksBy(int s, int sort, int at, int n) {
        if (s < 0 || s > 3 || sort < 0 || sort > 2 || n < 0 || n > 5) {
            return -2;
        }
        List<Integer> all = sheets.get(s);
        if (all == null) {
            return -11;
        }
        if (sorts[s] != sort) {
            return -13;
        }
        int came = 0;
        for (int k = 0; k < n; k++) {
            long i = at + 2L * k;
            if (i < 0 || i + 1 >= all.size()) {
                return -12;
            }
            came += clerk(all.get((int) i), all.get((int) i + 1)) >= 0 ? 1 : 0;
        }
        return came;
    }

    public long taken(int i, int kind) {
        if (kind < 0 || kind > 6) {
            return -2;
        }
        if (i < 0 || i > 10) {
            return -12;
        }
        if (i > 4) {
            int sum = Arrays.stream(owes[i - 5]).sum();
            return sum == 0 ? -11 : kind == 6 ? sum : -13;
        }
        if (!clerk(i)) {
            return -11;
        }
        List<List<Integer>> areAlso = List.of(List.of(0), List.of(1, 0), List.of(2, 0),
            List.of(3, 1, 0), List.of(4, 2, 0), List.of(5, 0));
        return areAlso.get(clerks.get(i).kind).contains(kind) ? i : -13;
    }
}
