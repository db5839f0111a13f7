import java.lang.reflect.InvocationTargetException;
import java.lang.reflect.Method;
import java.lang.reflect.Modifier;
import java.util.ArrayList;
import java.util.Comparator;
import java.util.List;

/** Any arguments in any state, also behind the 512th call: nothing is thrown, and refused is as refused. */
public final class NeverThrowsTest {
    private static final int OBJECTS = 400, CALLS = 1500;
    private static final long[] EDGES = {0, 1, -1, 2, 3, 5, 6, 7, 8, 53, 54, 63, 64, 65, 119, 120, 121, -2, -6,
        Integer.MAX_VALUE, Integer.MIN_VALUE, Long.MAX_VALUE, Long.MIN_VALUE, 0x7ff8000000000000L, 1L << 32};
    private static long seed = 7;

    private NeverThrowsTest() {
    }

    public static void main(String[] args) throws ReflectiveOperationException {
        List<Method> face = new ArrayList<>();
        for (Method m : CallBench.class.getDeclaredMethods()) {
            if (Modifier.isPublic(m.getModifiers())) {
                face.add(m);
            }
        }
        face.sort(Comparator.comparing(Method::getName));
        if (face.size() != 41) {
            System.out.println("NeverThrowsTest: the face has " + face.size() + " methods, due are 41");
            System.exit(1);
        }
        for (int k = 0; k < OBJECTS; k++) {
            CallBench b = new CallBench();
            for (int n = 0; n < CALLS; n++) {
                callAny(b, face.get(any(face.size())), k % 2 == 0);
            }
        }
        System.out.println("NeverThrowsTest: nothing was thrown");
    }

    private static int any(int n) {
        seed = seed * 6364136223846793005L + 1442695040888963407L;
        return (int) Long.remainderUnsigned(seed >>> 24, n);
    }

    private static long number(boolean wild) {
        if (!wild || any(3) > 0) {
            return any(any(8) + 1);
        }
        return any(3) == 0 ? seed : EDGES[any(EDGES.length)];
    }

    private static void callAny(CallBench b, Method m, boolean wild) throws ReflectiveOperationException {
        if ("sweep".equals(m.getName()) && any(10) > 0) {
            return;
        }
        Class<?>[] types = m.getParameterTypes();
        Object[] a = new Object[types.length];
        for (int i = 0; i < a.length; i++) {
            long v = number(wild);
            a[i] = types[i] == long.class ? (Object) v : types[i] == int.class ? (Object) (int) v : (Object) (v > 0);
        }
        try {
            m.invoke(b, a);
        } catch (InvocationTargetException e) {
            System.out.println("NeverThrowsTest: " + m.getName() + List.of(a) + " threw " + e.getCause());
            e.getCause().printStackTrace(System.out);
            System.exit(1);
        }
    }
}
