import java.lang.reflect.InvocationTargetException;
import java.lang.reflect.Method;
import java.util.Arrays;
import java.util.Comparator;
import java.util.Random;

/** No call throws, whatever its arguments and whatever came ahead: every method of the face, by chance, up to 512 calls. */
public final class NeverThrowsTest {
    private static final int RUNS = 1200;
    private static final int CALLS = 512;
    private static final int[] EDGES = {Integer.MIN_VALUE, Integer.MIN_VALUE + 1, -41, -1, 5, 6, 7, 8, 9, 10, 16, 20, 32, 39, 40, 41, 50,
        60, 61, 69, 70, 99, 100, 255, 1023, 1024, 9999, 10000, Integer.MAX_VALUE - 1, Integer.MAX_VALUE};

    public static void main(String[] args) throws IllegalAccessException {
        Method[] face = Arrays.stream(GlassEyes.class.getDeclaredMethods())
            .filter(m -> java.lang.reflect.Modifier.isPublic(m.getModifiers()))
            .sorted(Comparator.comparing(Method::getName)).toArray(Method[]::new);
        Random chance = new Random(7);
        int thrown = 0;
        for (int run = 0; run < RUNS; run++) {
            GlassEyes x = new GlassEyes();
            int wild = chance.nextInt(12);
            for (int i = 0; i < CALLS; i++) {
                Method m = face[chance.nextInt(face.length)];
                Object[] in = arguments(m, chance, wild);
                try {
                    m.invoke(x, in);
                } catch (InvocationTargetException e) {
                    thrown++;
                    System.out.println(m.getName() + Arrays.toString(in) + " threw " + e.getCause());
                }
            }
        }
        Due.due("calls that threw", thrown, 0);
        Due.end("NeverThrowsTest");
    }

    private static Object[] arguments(Method m, Random chance, int wild) {
        Class<?>[] types = m.getParameterTypes();
        Object[] in = new Object[types.length];
        for (int i = 0; i < in.length; i++) {
            if (types[i] == long.class) {
                in[i] = word(chance);
            } else {
                in[i] = chance.nextInt(12) < wild ? EDGES[chance.nextInt(EDGES.length)] : chance.nextInt(5);
            }
        }
        return in;
    }

    private static long word(Random chance) {
        String signs = "bhmlr01!()|&<=>+-*/%";
        long word = 0;
        for (int i = 0; i < 8; i++) {
            word = word << 8 | signs.charAt(chance.nextInt(signs.length()));
        }
        return chance.nextInt(5) == 0 ? chance.nextLong() : word;
    }
}
