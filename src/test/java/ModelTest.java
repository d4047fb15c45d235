import java.lang.reflect.Method;
import java.util.HashMap;
import java.util.Map;
import java.util.Random;

/** Long runs of calls, the same ones each time, on the program and on the model of the document. */
public final class ModelTest {
    private static final int RUNS = 600, CALLS = 512;
    private static final int[] EDGES = {-1, 0, 1, 40, 41, 100000, -100000, Integer.MAX_VALUE, Integer.MIN_VALUE, 1 << 30};
    private static final String[] CALLS_ASKED = {
        "count what6", "set two base", "set one year", "set what2 any", "force text", "force text", "asks what3 clerk number number",
        "clerk kind more", "clerk kind more", "told clerk what4", "figure clerk number figure", "reads pair number",
        "plain clerk number", "adds clerk number number", "apart clerk small what2", "book sheet clerk what4",
        "book sheet clerk what4", "who sheet what2", "smuggled sheet clerk what2", "slip clerk number what2",
        "sure clerk number", "shortest sheet clerk what2", "lend folk folk much", "lend folk folk much",
        "lend folk folk few", "lend folk folk few", "lend folk folk few", "debt folk folk", "pay clerk folkPair much",
        "pay clerk folkPair few", "rings", "clear", "forgive what2", "span year year", "behind year years",
        "alike clerk next what2", "judge sheet clerk", "judge sheet clerk", "kinds sheet clerk what3", "whose sheet",
        "laws sheet clerk", "film sheet clerk small steps", "drawn number clerk number",
        "odds number seeds clerk number what2", "odds number seeds clerk small what2", "image", "back",
        "sheet sheet sort size", "cell sheet place any", "cell sheet place number", "cell sheet place few",
        "copy sheet place sheet place place", "clerksBy sheet sort place what6", "taken place what6", "taken folkPlace what6",
        "feed what6 byte byte byte byte byte", "text"};

    private final Random random;
    private final NoZeroWithin program = new NoZeroWithin();
    private final Model model = new Model();
    private static final Map<String, Method> PROGRAMS = byName(NoZeroWithin.class), MODELS = byName(Model.class);
    private static final Due DUE = new Due();
    private final StringBuilder told = new StringBuilder();
    private int calls = 0;

    private ModelTest(int seed) {
        random = new Random(seed);
    }

    private static Map<String, Method> byName(Class<?> of) {
        Map<String, Method> methods = new HashMap<>();
        for (Method m : of.getMethods()) {
            if (m.getDeclaringClass() == of) {
                methods.put(m.getName(), m);
            }
        }
        return methods;
    }

    public static void main(String[] args) throws ReflectiveOperationException {
        for (int seed = 0; seed < RUNS; seed++) {
            new ModelTest(seed).run();
        }
        DUE.end();
    }

    private void run() throws ReflectiveOperationException {
        for (int i = random.nextInt(6); i > 0; i--) {
            call("clerk", random.nextInt(6), random.nextInt(10));
        }
        while (calls < CALLS - 60) {
            if (random.nextInt(40) == 0) {
                tellText();
            } else if (random.nextInt(60) == 0) {
                tellDebts();
            } else if (random.nextInt(12) == 0) {
                tellRows();
            } else if (random.nextInt(30) == 0) {
                tellBook();
            } else {
                tellOne();
            }
        }
    }

    private void tellOne() throws ReflectiveOperationException {
        String[] words = CALLS_ASKED[random.nextInt(CALLS_ASKED.length)].split(" ");
        // A way back to few clerks leaves little to ask.
        boolean rare = words[0].equals("back") || words[0].equals("image") && model.clerks.size() < 2;
        if (rare && random.nextInt(5) != 0) {
            return;
        }
        int[] values = new int[words.length - 1];
        for (int i = 0; i < values.length; i++) {
            values[i] = random.nextInt(25) == 0 ? EDGES[random.nextInt(EDGES.length)] : value(words[i + 1]);
        }
        call(words[0], values);
    }

    /** Rows as a clerk writes them, so that the calls that judge find some to be his, and then perhaps a change. */
    private void tellRows() throws ReflectiveOperationException {
        int s = random.nextInt(4);
        call("film", s, value("clerk"), random.nextInt(30), 100 * random.nextInt(12) + random.nextInt(6));
        if (random.nextInt(2) == 0) {
            call("cell", s, random.nextInt(10), random.nextInt(120));
        }
        if (random.nextInt(3) == 0) {
            call("force", value("text"));
        }
        call("judge", s, value("clerk"));
        call("kinds", s, value("clerk"), random.nextInt(3));
        call("whose", s);
        call("laws", s, value("clerk"));
    }

    private void tellBook() throws ReflectiveOperationException {
        int s = random.nextInt(4);
        int size = random.nextInt(7);
        call("sheet", s, 2, size);
        for (int i = 0; i < size; i++) {
            call("cell", s, i, value("number"));
        }
        call("who", s, 0);
        call("who", s, 1);
        int c = value("clerk");
        for (int what = 0; what < 4; what++) {
            call("book", s, c, what);
        }
        call("smuggled", s, c, 0);
        call("smuggled", s, c, 1);
        call("shortest", s, c, 0);
        call("shortest", s, c, 1);
    }

    private void tellText() throws ReflectiveOperationException {
        StringBuilder text = new StringBuilder();
        text.append("nought").append(blank()).append(either(2)).append(blank()).append(";");
        text.append("slips").append(blank()).append(either(2)).append(";");
        text.append(blank()).append("costs ").append(either(2)).append(";").append(blank());
        if (random.nextInt(4) == 0) {
            nest(text);
        }
        if (random.nextInt(3) == 0) {
            spoil(text);
        }
        if (random.nextInt(4) != 0) {
            call("text");
        }
        for (int i = 0; i < text.length(); i += 5) {
            int n = Math.min(5, text.length() - i);
            int[] values = new int[6];
            values[0] = n;
            for (int k = 0; k < n; k++) {
                values[1 + k] = text.charAt(i + k);
            }
            call("feed", values);
        }
        call("text");
        call("count", 3);
        call("count", 5);
    }

    /** More or fewer of what may be open, ahead of a part. */
    private void nest(StringBuilder text) {
        String[] openers = {"(", "-", "not ", "1+(", "v*-"};
        StringBuilder front = new StringBuilder();
        int closes = 0;
        for (int i = between(3, 6); i > 0; i--) {
            String opener = openers[random.nextInt(openers.length)];
            front.append(opener);
            closes += opener.endsWith("(") ? 1 : 0;
        }
        int at = text.indexOf("slips") + 5;
        text.insert(at, " " + front + "5" + ")".repeat(closes) + "+");
    }

    private void tellDebts() throws ReflectiveOperationException {
        for (int i = 0; i < 6; i++) {
            for (int k = 0; k < 3; k++) {
                call("lend", random.nextInt(6), i, random.nextInt(9));
            }
        }
        call("rings");
        call("forgive", 0);
        call("forgive", 1);
        call("clear");
        call("rings");
        for (int f = 0; f < 6; f++) {
            call("taken", 5 + f, 6);
        }
    }

    private void spoil(StringBuilder text) {
        String odd = "()+-*<=;aznv019 \nA\u00e9#,";
        for (int i = random.nextInt(3); i >= 0; i--) {
            int at = random.nextInt(text.length());
            switch (random.nextInt(4)) {
                case 0 -> text.setCharAt(at, odd.charAt(random.nextInt(odd.length())));
                case 1 -> text.deleteCharAt(at);
                case 2 -> text.insert(at, odd.charAt(random.nextInt(odd.length())));
                default -> text.setLength(Math.max(1, at));
            }
        }
    }

    private String blank() {
        return new String[] {" ", "  ", "\n", " \n "}[random.nextInt(4)];
    }

    private String either(int deep) {
        return random.nextInt(5) == 0 ? both(deep) + " or " + both(deep) : both(deep);
    }

    private String both(int deep) {
        return random.nextInt(5) == 0 ? not(deep) + " and " + not(deep) : not(deep);
    }

    private String not(int deep) {
        return switch (random.nextInt(7)) {
            case 0 -> "not " + not(deep);
            case 1 -> sum(deep) + "<" + sum(deep);
            case 2 -> sum(deep) + " = " + sum(deep);
            default -> sum(deep);
        };
    }

    private String sum(int deep) {
        return switch (random.nextInt(6)) {
            case 0 -> term(deep) + "+" + term(deep);
            case 1 -> term(deep) + " - " + term(deep);
            default -> term(deep);
        };
    }

    private String term(int deep) {
        return random.nextInt(5) == 0 ? one(deep) + "*" + one(deep) : one(deep);
    }

    private String one(int deep) {
        int way = random.nextInt(10);
        if (way == 0) {
            return "-" + one(deep);
        }
        if (way == 1 && deep > 0) {
            return "(" + either(deep - 1) + ")";
        }
        return way < 6 ? Model.NAMES.get(random.nextInt(6)) : "" + random.nextInt(random.nextBoolean() ? 12 : 9999);
    }

    private int between(int least, int most) {
        return least + random.nextInt(most - least + 1);
    }

    private int value(String of) {
        if (of.startsWith("what")) {
            return between(-1, of.charAt(4) - '0');
        }
        return switch (of) {
            case "one" -> 1;
            case "two" -> 0;
            case "base" -> random.nextInt(3) == 0 ? 10 : between(1, 13);
            case "year" -> random.nextInt(6) == 0 ? between(-1001, 1001) : random.nextInt(5) == 0 ? between(980, 999) : between(-40, 40);
            case "years" -> random.nextInt(4) == 0 ? between(-5000, 5000) : between(-300, 300);
            case "next" -> between(-1, 201);
            case "text" -> between(-1, 6);
            case "clerk" -> random.nextInt(15) == 0 ? between(-1, 5) : random.nextInt(Math.max(1, model.clerks.size()));
            case "pair" -> 100 * value("clerk") + value("clerk");
            case "kind" -> between(-1, 6);
            case "more" -> between(-1, 10);
            case "number" -> numberValue();
            case "small" -> random.nextInt(3) == 0 ? between(-1, 1000) : between(0, 30);
            case "figure" -> random.nextInt(4) == 0 ? between(-1, 41) : between(0, 8);
            case "sheet" -> random.nextInt(20) == 0 ? between(-1, 4) : random.nextInt(4);
            case "sort" -> random.nextInt(20) == 0 ? between(-2, 3) : random.nextInt(3);
            case "size" -> random.nextInt(6) == 0 ? between(-1, 41) : random.nextInt(7);
            case "place" -> random.nextInt(6) == 0 ? between(-1, 41) : random.nextInt(5);
            case "folkPlace" -> between(5, 11);
            case "folk" -> random.nextInt(15) == 0 ? between(-1, 6) : random.nextInt(6);
            case "folkPair" -> 10 * value("folk") + value("folk");
            case "much" -> between(-1, 10000);
            case "few" -> random.nextInt(3) == 0 ? 0 : between(0, 12);
            case "steps" -> random.nextInt(10) == 0 ? between(-200, 11000) : 100 * random.nextInt(100) + random.nextInt(21);
            case "seeds" -> random.nextInt(10) == 0 ? between(-1, 62) : between(1, 60);
            case "byte" -> random.nextInt(30) == 0 ? between(-1, 256) : between(0, 255);
            case "any" -> random.nextInt(3) == 0 ? random.nextInt() : between(-40000, 70000);
            default -> throw new IllegalStateException(of);
        };
    }

    private int numberValue() {
        return switch (random.nextInt(8)) {
            case 0 -> 0;
            case 1 -> 10 * random.nextInt(10000);
            case 2 -> between(-1, 100000);
            case 3 -> between(99990, 100000);
            case 4 -> random.nextInt(100000);
            default -> random.nextInt(150);
        };
    }

    private void call(String name, int... values) throws ReflectiveOperationException {
        Object[] given = new Object[values.length];
        StringBuilder row = new StringBuilder(name).append('(');
        for (int i = 0; i < values.length; i++) {
            given[i] = values[i];
            row.append(i == 0 ? "" : ", ").append(values[i]);
        }
        row.append(')');
        long got = ((Number) PROGRAMS.get(name).invoke(program, given)).longValue();
        long want = ((Number) MODELS.get(name).invoke(model, given)).longValue();
        told.append(row).append(" -> ").append(want).append('\n');
        if (got != want) {
            System.out.println("after:\n" + told);
        }
        DUE.due(row.toString(), got, want);
        if (got != want) {
            DUE.end();
        }
        calls++;
    }
}
