import java.lang.reflect.InvocationTargetException;
import java.lang.reflect.Method;
import java.lang.reflect.Modifier;
import java.util.ArrayList;
import java.util.Comparator;
import java.util.List;
import java.util.Random;

/** Any arguments in any state: nothing throws, and what is refused changes nothing. */
public final class WildTest {
    private static final int[] EDGES = {Integer.MIN_VALUE, -1000, -9, -2, -1, 0, 1, 2, 3, 4, 5, 6, 7, 8, 9, 10, 11, 20, 21, 29, 30,
        31, 32, 33, 48, 63, 64, 65, 66, 70, 78, 99, 255, 256, 1 << 16, Integer.MAX_VALUE - 1, Integer.MAX_VALUE};
    private static final long[] LONG_EDGES = {Long.MIN_VALUE, -1, 0, 1, 999, 1000, 999999999999L, 1000000000000L, Long.MAX_VALUE};
    private static final Due DUE = new Due("WildTest");

    public static void main(String[] args) throws Exception {
        List<Method> face = new ArrayList<>();
        for (Method method : DustVote.class.getDeclaredMethods()) {
            if (Modifier.isPublic(method.getModifiers())) {
                face.add(method);
            }
        }
        face.sort(Comparator.comparing(Method::getName));
        for (int run = 0; run < 400; run++) {
            wildRun(face, new Random(run), run);
        }
        DUE.end();
    }

    private static void wildRun(List<Method> face, Random r, int run) throws Exception {
        DustVote x = run % 4 == 0 ? new DustVote() : Due.city("B9" + (1000000 + r.nextInt(9000000))
            + "N0" + (1 + r.nextInt(9)) + r.nextInt(4) + "N741N262N533N110F09F79F35F42F09");
        for (int i = 0; i < 300; i++) {
            Method method = face.get(r.nextInt(face.size()));
            Object[] with = arguments(method, r);
            String before = Due.seen(x);
            String call = method.getName() + java.util.Arrays.toString(with);
            try {
                long answer = ((Number) method.invoke(x, with)).longValue();
                boolean refused = method.getReturnType() == int.class && answer <= -1 && answer >= -4 && !method.getName().equals("share");
                DUE.is(call + ", refused, changes nothing", !refused || Due.seen(x).equals(before) ? 1 : 0, 1);
            } catch (InvocationTargetException thrown) {
                DUE.is(call + " threw " + thrown.getCause(), 1, 0);
            }
        }
    }

    private static Object[] arguments(Method method, Random r) {
        Class<?>[] types = method.getParameterTypes();
        Object[] with = new Object[types.length];
        for (int i = 0; i < types.length; i++) {
            if (types[i] == boolean.class) {
                with[i] = r.nextBoolean();
            } else if (types[i] == long.class) {
                with[i] = r.nextInt(3) == 0 ? r.nextLong() : LONG_EDGES[r.nextInt(LONG_EDGES.length)];
            } else {
                with[i] = r.nextInt(6) == 0 ? r.nextInt() : r.nextInt(3) == 0 ? r.nextInt(3) : EDGES[r.nextInt(EDGES.length)];
            }
        }
        return with;
    }
}
