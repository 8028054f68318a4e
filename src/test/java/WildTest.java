import java.lang.reflect.InvocationTargetException;
import java.lang.reflect.Method;
import java.lang.reflect.Modifier;

/** No call throws, whatever its numbers are and whatever has been called. */
public final class WildTest {
    private static final Check CHECK = new Check();
    private static final int[] WILD = {
        Integer.MIN_VALUE, -1, 0, 1, 3, 6, 100, Integer.MAX_VALUE,
    };
    private static final Edge.Scene SMALL = x -> {
        Check.settle(x, "y11;h0;0");
        rows(x);
    };
    private static final Edge.Scene GREAT = x -> {
        Check.settle(x, "y64;m012345;p678901;h234567;m890123;4567;8901;2345;6789;0123;4567");
        for (int k = 0; k < 24; k++) {
            x.offer(k % 6, k % 4);
        }
        for (int k = 0; k < 8; k++) {
            x.reading(k % 4, k % 6, k, true);
        }
        rows(x);
    };
    /** With what a scene takes it stays below the 512 that an object is good for. */
    private static final int CALLS = 350;

    private final Edge.Scene scene;
    private ThreeRefusals x;
    private int calls;

    private WildTest(Edge.Scene scene) {
        this.scene = scene;
        begin();
    }

    public static void main(String[] args) throws IllegalAccessException {
        for (Edge.Scene scene : new Edge.Scene[] {Edge.NEW, Edge.LIVED, Edge.FULL, SMALL, GREAT}) {
            WildTest test = new WildTest(scene);
            for (Method method : ThreeRefusals.class.getDeclaredMethods()) {
                if (Modifier.isPublic(method.getModifiers())) {
                    test.callBySome(method);
                }
            }
        }
        CHECK.end();
    }

    private static void rows(ThreeRefusals x) {
        x.sheet(0, 0, 100);
        x.sheet(1, 1, 0);
    }

    private void begin() {
        x = new ThreeRefusals();
        scene.play(x);
        calls = 0;
    }

    private void callBySome(Method method) throws IllegalAccessException {
        Class<?>[] types = method.getParameterTypes();
        int ways = 1;
        for (int k = 0; k < types.length; k++) {
            ways *= WILD.length;
        }
        Object[] values = new Object[types.length];
        for (int way = 0; way < ways; way++) {
            int rest = way;
            for (int k = 0; k < types.length; k++) {
                int v = WILD[rest % WILD.length];
                rest /= WILD.length;
                values[k] = types[k] == boolean.class ? (Object) (v > 0) : (Object) v;
            }
            CHECK.due("a throw of " + method.getName(), throwsAt(method, values), 0);
        }
    }

    private int throwsAt(Method method, Object[] values) throws IllegalAccessException {
        if (calls == CALLS) {
            begin();
        }
        calls++;
        try {
            method.invoke(x, values);
            return 0;
        } catch (InvocationTargetException e) {
            return 1;
        }
    }
}
