import java.lang.reflect.InvocationTargetException;
import java.lang.reflect.Method;
import java.lang.reflect.Modifier;
import java.util.Arrays;
import java.util.Comparator;
import java.util.Random;

/** No call of the face throws, whatever its arguments and whatever was called ahead of it. */
public final class ExtremesTest {
    private static final int[] INTS = {0, 1, 2, 3, 4, 5, 11, 12, 15, 16, 17, 63, 64, 100, 143, 144, 150, 151, 262143, 262144,
        -1, -2, -5, Integer.MIN_VALUE, Integer.MIN_VALUE + 1, Integer.MAX_VALUE, Integer.MAX_VALUE - 1, 1 << 30, 1 << 16};
    private static final long[] LONGS = {0, 1, -1, Long.MIN_VALUE, Long.MAX_VALUE, 1L << 32, 1L << 62, -7};
    private static final Due due = new Due("ExtremesTest");

    public static void main(String[] args) throws Exception {
        Method[] face = Arrays.stream(DitherDesk.class.getDeclaredMethods())
            .filter(m -> Modifier.isPublic(m.getModifiers())).sorted(Comparator.comparing(Method::getName)).toArray(Method[]::new);
        Random draw = new Random(1);
        for (int run = 0; run < 600; run++) {
            DitherDesk desk = new DitherDesk();
            if (run % 2 == 1) {
                furnish(desk, run);
            }
            for (int i = 0; i < 420; i++) {
                call(desk, face[draw.nextInt(face.length)], draw, run);
            }
        }
        due.close();
    }

    private static void furnish(DitherDesk desk, int run) {
        for (int p = 0; p < 4; p++) {
            desk.picture(p, 1 + (run + p) % 12, 1 + run / 12 % 12);
            desk.noise(p, run);
            desk.cut(p, p, 16);
            desk.tape(p, p, 150);
        }
        desk.make(run % 4, 0, run % 5);
        desk.image();
    }

    private static void call(DitherDesk desk, Method method, Random draw, int run) throws Exception {
        Class<?>[] types = method.getParameterTypes();
        Object[] given = new Object[types.length];
        for (int i = 0; i < types.length; i++) {
            // every other run mostly small numbers, so that calls get past their first tests
            int many = draw.nextInt(run % 4 < 2 ? INTS.length : 6) + 1;
            given[i] = types[i] == boolean.class ? (Object) draw.nextBoolean()
                : types[i] == long.class ? (Object) LONGS[draw.nextInt(LONGS.length)] : (Object) INTS[draw.nextInt(many)];
        }
        try {
            method.invoke(desk, given);
            due.holds("returned", true);
        } catch (InvocationTargetException e) {
            due.holds(method.getName() + Arrays.toString(given) + " threw " + e.getCause(), false);
        }
    }
}
