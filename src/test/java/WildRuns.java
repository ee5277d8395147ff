import java.lang.reflect.InvocationTargetException;
import java.lang.reflect.Method;
import java.lang.reflect.Modifier;
import java.util.Arrays;
import java.util.Comparator;
import java.util.Random;

/** Calls with any arguments at all, on towns in any state: none may throw. */
public final class WildRuns {
    private static final int[] EDGES = {Integer.MIN_VALUE, Integer.MIN_VALUE + 1, -1000001, -401, -3, -2, -1, 0, 1, 2, 3, 4, 5,
        6, 7, 8, 20, 23, 24, 30, 52, 59, 60, 100, 300, 399, 400, 401, 100000, 1 << 30, Integer.MAX_VALUE - 1,
        Integer.MAX_VALUE};

    private static Object any(Random random, Class<?> type) {
        if (type == boolean.class) {
            return random.nextBoolean();
        }
        return random.nextInt(9) == 0 ? random.nextInt() : EDGES[random.nextInt(EDGES.length)];
    }

    private static MillTown begin(Random random) {
        MillTown town = random.nextBoolean() ? new MillTown() : Due.smallTown();
        for (int i = random.nextInt(9); i > 0; i--) {
            town.mill(60, 200, 1000000, -1000);
            town.shop(100000, 400, 0);
            town.home(0, 10000);
            town.person(random.nextInt(9), 5 + random.nextInt(70), 10);
            town.work(random.nextInt(9), 1 + random.nextInt(4), random.nextInt(9), 1 + random.nextInt(6));
            town.order(random.nextInt(6), 500, 10000, 0, 399);
        }
        return town;
    }

    public static void main(String[] args) throws IllegalAccessException {
        Method[] methods = Arrays.stream(MillTown.class.getDeclaredMethods())
                .filter(m -> Modifier.isPublic(m.getModifiers()))
                .sorted(Comparator.comparing(Method::getName)).toArray(Method[]::new);
        int thrown = 0;
        int calls = 0;
        for (int seed = 0; seed < 500 && thrown < 5; seed++) {
            Random random = new Random(seed);
            MillTown town = begin(random);
            for (int i = 0; i < 450; i++) {
                Method method = methods[random.nextInt(methods.length)];
                Object[] given = Arrays.stream(method.getParameterTypes()).map(t -> any(random, t)).toArray();
                calls++;
                try {
                    method.invoke(town, given);
                } catch (InvocationTargetException e) {
                    thrown++;
                    System.out.println(method.getName() + Arrays.toString(given) + " threw " + e.getCause());
                    break;
                }
            }
        }
        System.out.println("WildRuns: " + calls + " calls, " + thrown + " threw");
        if (thrown != 0) {
            System.exit(1);
        }
    }
}
