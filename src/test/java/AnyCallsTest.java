import java.lang.reflect.InvocationTargetException;
import java.lang.reflect.Method;
import java.lang.reflect.Modifier;
import java.util.Random;
import java.util.TreeSet;

/** The face is the document's, no call ever throws, and what is refused changes nothing. */
public final class AnyCallsTest {
    private static final int[] ODD = {0, 1, 2, 3, 4, 5, 6, 7, 8, 9, 10, 11, 20, 25, 39, 40, 41, 59, 160, 255, 256, 999, 1000, -1, -2, -14,
        Integer.MAX_VALUE, Integer.MAX_VALUE - 1, Integer.MIN_VALUE, Integer.MIN_VALUE + 1, 65536, 1 << 30};

    public static void main(String[] args) throws Exception {
        face();
        for (int seed = 0; seed < 300; seed++) anyCalls(new Random(seed));
        Due.end("AnyCallsTest");
    }

    private static void face() {
        TreeSet<String> names = new TreeSet<>();
        for (Method m : SeatedByDebts.class.getDeclaredMethods()) {
            if (!Modifier.isPrivate(m.getModifiers()) && !m.isSynthetic()) names.add(m.getReturnType() + " " + m.getName() + m.getParameterCount());
        }
        String due = "[int back0, int bars0, int borrow2, int cell3, int company1, int copy5, int count1, int dine1, int drawn1, int feed1, int film1, int force1, "
            + "int guest2, int guests4, int image0, int owe3, int run2, int set3, int sheet3, int table2, int tables1, int taken2, int tells3, int text0, int told2, long chance3]";
        Due.is("the face is " + names, names.toString().equals(due) ? 1 : 0, 1);
        Due.is("one constructor", SeatedByDebts.class.getDeclaredConstructors().length, 1);
        Due.is("final", Modifier.isFinal(SeatedByDebts.class.getModifiers()) ? 1 : 0, 1);
        Due.is("NONE", SeatedByDebts.NONE, -1);
        Due.is("BAD", SeatedByDebts.BAD, -2);
        Due.is("STATE", SeatedByDebts.STATE, -3);
        Due.is("FULL", SeatedByDebts.FULL, -4);
        Due.is("NO", SeatedByDebts.NO, -4611686018427387904L);
    }

    private static void anyCalls(Random random) throws IllegalAccessException {
        SeatedByDebts x = new SeatedByDebts();
        Method[] methods = SeatedByDebts.class.getMethods();
        for (int i = 0; i < 400; i++) {
            Method m = methods[random.nextInt(methods.length)];
            if (m.getDeclaringClass() != SeatedByDebts.class) continue;
            Object[] args = new Object[m.getParameterCount()];
            for (int k = 0; k < args.length; k++) args[k] = random.nextInt(3) == 0 ? ODD[random.nextInt(ODD.length)] : random.nextInt(4);
            String before = m.getName().equals("guests") || m.getName().equals("text") ? "" : Seen.of(x);
            String call = m.getName() + java.util.Arrays.toString(args);
            try {
                long got = ((Number) m.invoke(x, args)).longValue();
                boolean refused = got <= -2 && got >= -14 && !m.getName().equals("table") && !m.getName().equals("tables");
                if (refused && !before.isEmpty()) Due.is(call + " changes nothing", Seen.of(x).equals(before) ? 1 : 0, 1);
            } catch (InvocationTargetException e) {
                Due.is(call + " throws " + e.getCause(), 1, 0);
            }
        }
    }
}
