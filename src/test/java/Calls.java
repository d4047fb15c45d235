import java.lang.reflect.InvocationTargetException;
import java.lang.reflect.Method;
import java.util.HashMap;
import java.util.Map;

/** Calls that are told as text, so that a run of them can be read as the document's own rows. */
final class Calls {
    private static final Map<String, Method> METHODS = new HashMap<>();

    static {
        for (Method m : NoZeroWithin.class.getMethods()) {
            if (m.getDeclaringClass() == NoZeroWithin.class) {
                METHODS.put(m.getName(), m);
            }
        }
    }

    private Calls() {
    }

    /** "name(1, 2)"; "say nought 1;.." feeds a text and reads it; "fill 0 2: 7 8" makes sheet 0 the ints 7, 8. */
    static long ask(NoZeroWithin x, String call) {
        if (call.startsWith("say ")) {
            return Due.say(x, call.substring(4));
        }
        if (call.startsWith("fill ")) {
            return fill(x, call);
        }
        String inside = call.substring(call.indexOf('(') + 1, call.lastIndexOf(')')).trim();
        int[] numbers = inside.isEmpty() ? new int[0] : numbers(inside.split(","));
        return ask(x, call.substring(0, call.indexOf('(')), numbers);
    }

    static long ask(NoZeroWithin x, String name, int... numbers) {
        Object[] given = new Object[numbers.length];
        for (int i = 0; i < given.length; i++) {
            given[i] = numbers[i];
        }
        Method method = METHODS.get(name);
        if (method == null || method.getParameterCount() != given.length) {
            throw new IllegalArgumentException("no such call: " + name + " of " + given.length);
        }
        try {
            return ((Number) method.invoke(x, given)).longValue();
        } catch (InvocationTargetException | IllegalAccessException e) {
            throw new IllegalStateException(name, e);
        }
    }

    private static int[] numbers(String[] words) {
        int[] numbers = new int[words.length];
        for (int i = 0; i < words.length; i++) {
            String word = words[i].trim();
            numbers[i] = word.equals("least") ? Integer.MIN_VALUE : word.equals("most") ? Integer.MAX_VALUE : Integer.parseInt(word);
        }
        return numbers;
    }

    private static long fill(NoZeroWithin x, String call) {
        int colon = call.indexOf(':');
        int[] to = numbers(call.substring(5, colon).trim().split(" "));
        String row = call.substring(colon + 1).trim();
        int[] numbers = row.isEmpty() ? new int[0] : numbers(row.split(" +"));
        Due.fill(x, to[0], to[1], numbers);
        return numbers.length;
    }
}
