import java.lang.reflect.InvocationTargetException;
import java.lang.reflect.Method;
import java.lang.reflect.Modifier;

/** No call throws, whatever its numbers are and whatever has been called. */
public final class WildTest {
    private static final Check CHECK = new Check();
    private static final int[] WILD = {
        Integer.MIN_VALUE, -1, 0, 1, 3, 6, 100, Integer.MAX_VALUE,
    };

    public static void main(String[] args) throws IllegalAccessException {
        ThreeRefusals fresh = new ThreeRefusals();
        ThreeRefusals small = Check.valley("y11;h0;0");
        ThreeRefusals great = Check.valley(
            "y64;m012345;p678901;h234567;m890123;4567;8901;2345;6789;0123;4567");
        for (int k = 0; k < 24; k++) {
            great.offer(k % 6, k % 4);
        }
        for (int k = 0; k < 8; k++) {
            great.reading(k % 4, k % 6, k, true);
        }
        for (ThreeRefusals x : new ThreeRefusals[] {fresh, small, great}) {
            x.sheet(0, 0, 100);
            x.sheet(1, 1, 0);
            for (Method method : ThreeRefusals.class.getDeclaredMethods()) {
                if (Modifier.isPublic(method.getModifiers())) {
                    callBySome(x, method);
                }
            }
        }
        CHECK.end();
    }

    private static void callBySome(ThreeRefusals x, Method method) throws IllegalAccessException {
        Class<?>[] types = method.getParameterTypes();
        int ways = 1;
        for (int k = 0; k < types.length; k++) {
            ways *= WILD.length;
        }
        Object[] values = new Object[types.length];
        for (int way = 0; way < ways; way++) {
            int rest = way;
            for (int k = 0; k < types.length; k++) {
                int v = WILD[rest % WILD.length];
                rest /= WILD.length;
                values[k] = types[k] == boolean.class ? (Object) (v > 0) : (Object) v;
            }
            CHECK.due("a throw of " + method.getName(), throwsAt(x, method, values), 0);
        }
    }

    private static int throwsAt(ThreeRefusals x, Method method, Object[] values)
            throws IllegalAccessException {
        try {
            method.invoke(x, values);
            return 0;
        } catch (InvocationTargetException e) {
            return 1;
        }
    }
}
