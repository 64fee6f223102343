import java.lang.reflect.InvocationTargetException;
import java.lang.reflect.Method;
import java.lang.reflect.Modifier;
import java.util.Arrays;
import java.util.Comparator;
import java.util.List;
import java.util.Random;
import java.util.stream.Collectors;

/** No call ever throws, whatever it is given; and what it answers may be answered. */
public final class ExtremesTest {
    private static final int RUNS = 600;
    /** As many as an object may be used for, but for those that make its lookers. */
    private static final int CALLS = 504;
    private static final int[] NUMBERS = {
        Integer.MIN_VALUE, Integer.MIN_VALUE + 1, -65536, -257, -256, -20, -6, -3, -2, -1, 0, 1, 2, 3, 4, 5, 6, 7, 8, 9, 10, 11, 12, 13,
        16, 17, 18, 20, 21, 31, 32, 39, 40, 41, 63, 99, 100, 127, 128, 250, 255, 256, 4095, 4096, 65535, Integer.MAX_VALUE - 1, Integer.MAX_VALUE,
    };

    public static void main(String[] args) throws IllegalAccessException {
        List<Method> face = Arrays.stream(SeenInOrderOfAge.class.getDeclaredMethods())
            .filter(m -> Modifier.isPublic(m.getModifiers()))
            .sorted(Comparator.comparing(Method::getName))
            .collect(Collectors.toList());
        Random random = new Random(11);
        for (int run = 0; run < RUNS; run++) {
            SeenInOrderOfAge x = new SeenInOrderOfAge();
            for (int i = 0; i < random.nextInt(9); i++) {
                x.looker(random.nextInt(6), random.nextInt(8), random.nextInt(100));
            }
            for (int i = 0; i < CALLS; i++) {
                call(x, face.get(random.nextInt(face.size())), random);
            }
        }
        System.out.println(RUNS * CALLS + " calls, none of which threw");
    }

    private static void call(SeenInOrderOfAge x, Method m, Random random) throws IllegalAccessException {
        Object[] given = new Object[m.getParameterCount()];
        for (int i = 0; i < given.length; i++) {
            Class<?> type = m.getParameterTypes()[i];
            int v = random.nextInt(4) == 0 ? NUMBERS[random.nextInt(NUMBERS.length)] : random.nextInt(9) - 1;
            given[i] = type == boolean.class ? (Object) (v > 2) : type == long.class ? (Object) (v * 4294967297L) : (Object) v;
        }
        try {
            Object answer = m.invoke(x, given);
            if (m.getReturnType() == int.class && !m.getName().equals("seed") && !m.getName().equals("status")) {
                check(((Integer) answer) >= -270 && ((Integer) answer) <= 1000000, m, given, answer);
            }
        } catch (InvocationTargetException e) {
            check(false, m, given, e.getCause());
        }
    }

    private static void check(boolean holds, Method m, Object[] given, Object answer) {
        if (!holds) {
            System.out.println(m.getName() + Arrays.toString(given) + " answered " + answer);
            System.exit(1);
        }
    }
}
