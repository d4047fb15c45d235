import java.lang.reflect.Constructor;
import java.lang.reflect.Field;
import java.lang.reflect.Method;
import java.lang.reflect.Modifier;
import java.util.Arrays;
import java.util.TreeSet;

/** The public face: just the members that the document lists. */
public final class FaceTest {
    private static final Due D = new Due();
    private static final String[] FACE = {
        "int count 1", "int set 2", "int feed 6", "int text 0", "int force 1", "int asks 4", "int clerk 2", "int told 2", "int figure 3", "long reads 2", "long plain 2",
        "long adds 3", "int apart 3", "long book 3", "long who 2", "long smuggled 3", "long slip 3", "long sure 2", "int shortest 3", "int lend 3", "int debt 2", "int pay 3",
        "int rings 0", "int clear 0", "int forgive 1", "int span 2", "int behind 2", "int alike 3", "int judge 2", "int kinds 3", "int whose 1", "int laws 2", "int film 4",
        "long drawn 3", "long odds 5", "int image 0", "int back 0", "int sheet 3", "int cell 3", "int copy 5", "int clerksBy 4", "int taken 2"};

    public static void main(String[] args) {
        methods();
        others();
        D.end();
    }

    private static boolean isSeen(int modifiers) {
        return !Modifier.isPrivate(modifiers);
    }

    private static void methods() {
        TreeSet<String> got = new TreeSet<>();
        for (Method m : NoZeroWithin.class.getDeclaredMethods()) {
            if (isSeen(m.getModifiers()) && !m.isSynthetic()) {
                boolean isOfInts = Arrays.stream(m.getParameterTypes()).allMatch(p -> p == int.class);
                boolean isCall = Modifier.isPublic(m.getModifiers()) && !Modifier.isStatic(m.getModifiers()) && isOfInts;
                got.add((isCall ? "" : "not so ") + m.getReturnType() + " " + m.getName() + " " + m.getParameterCount());
            }
        }
        TreeSet<String> want = new TreeSet<>(Arrays.asList(FACE));
        D.due("the methods are " + got + " of " + want, got.equals(want) ? 1 : 0, 1);
        D.due("42 methods", FACE.length, 42);
    }

    private static void others() {
        TreeSet<String> fields = new TreeSet<>();
        for (Field f : NoZeroWithin.class.getDeclaredFields()) {
            if (isSeen(f.getModifiers())) {
                fields.add(Modifier.toString(f.getModifiers()) + " " + f.getType() + " " + f.getName());
            }
        }
        String first = "public static final ";
        D.due("the constants are " + fields, fields.equals(new TreeSet<>(Arrays.asList(first + "int NONE", first + "int BAD", first + "int STATE", first + "int FULL",
            first + "long NO"))) ? 1 : 0, 1);
        D.due("NONE", NoZeroWithin.NONE, -1);
        D.due("BAD", NoZeroWithin.BAD, -2);
        D.due("STATE", NoZeroWithin.STATE, -3);
        D.due("FULL", NoZeroWithin.FULL, -4);
        D.due("NO", NoZeroWithin.NO, -4611686018427387904L);
        Constructor<?>[] made = NoZeroWithin.class.getDeclaredConstructors();
        D.due("one constructor", made.length, 1);
        D.due("of nothing, public", made[0].getParameterCount() == 0 && Modifier.isPublic(made[0].getModifiers()) ? 1 : 0, 1);
        D.due("public final", NoZeroWithin.class.getModifiers(), Modifier.PUBLIC | Modifier.FINAL);
    }
}
