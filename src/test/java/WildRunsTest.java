import java.lang.reflect.InvocationTargetException;
import java.lang.reflect.Method;
import java.util.ArrayList;
import java.util.Arrays;
import java.util.Comparator;
import java.util.List;
import java.util.Random;

/** Any call with any arguments, far ones often: none throws, each answers as the Oracle does. */
public final class WildRunsTest {
    private static final int[] FAR = {
        Integer.MIN_VALUE, Integer.MIN_VALUE + 1, Integer.MIN_VALUE + 10, Integer.MIN_VALUE + 31, -2147483640, -1000000, -1000, -999, -100,
        -20, -15, -10, -9, -3, -2, -1, 99, 100, 160, 255, 256, 998, 999, 1000, 65536, 99999, 100000, 1 << 30, Integer.MAX_VALUE - 39,
        Integer.MAX_VALUE - 7, Integer.MAX_VALUE - 1, Integer.MAX_VALUE};

    public static void main(String[] args) throws ReflectiveOperationException {
        Check check = new Check("WildRunsTest");
        List<Method> calls = new ArrayList<>();
        for (Method m : RememberedAsSunny.class.getDeclaredMethods()) {
            if (java.lang.reflect.Modifier.isPublic(m.getModifiers())) {
                calls.add(m);
            }
        }
        calls.sort(Comparator.comparing(Method::getName));
        check.due("calls", calls.size(), 28);
        for (int run = 0; run < 300; run++) {
            Random random = new Random(run);
            RememberedAsSunny x = new RememberedAsSunny();
            Oracle o = new Oracle();
            for (int i = 0; i < 512; i++) {
                one(check, "run " + run + ", call " + i, calls.get(random.nextInt(calls.size())), random, x, o);
            }
        }
        check.end();
    }

    private static void one(Check check, String where, Method call, Random random, RememberedAsSunny x, Oracle o)
            throws ReflectiveOperationException {
        Object[] args = new Object[call.getParameterCount()];
        for (int i = 0; i < args.length; i++) {
            args[i] = random.nextInt(4) == 0 ? FAR[random.nextInt(FAR.length)] : random.nextInt(random.nextInt(3) == 0 ? 45 : 9);
        }
        String told = where + ": " + call.getName() + Arrays.toString(args);
        Number want = (Number) Oracle.class.getDeclaredMethod(call.getName(), call.getParameterTypes()).invoke(o, args);
        try {
            check.due(told, ((Number) call.invoke(x, args)).longValue(), want.longValue());
        } catch (InvocationTargetException thrown) {
            check.that(told + " threw " + thrown.getCause(), false);
        }
    }
}
