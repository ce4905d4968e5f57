import java.lang.reflect.InvocationTargetException;
import java.lang.reflect.Method;
import java.util.Arrays;
import java.util.Comparator;
import java.util.Random;

/** No call ever throws, whatever its arguments are: runs of calls by a seed, with numbers from all over. */
public final class AnyArgumentsTest {
    private static final Due DUE = new Due("AnyArgumentsTest");
    private static final int[] FAR = {Integer.MIN_VALUE, Integer.MIN_VALUE + 1, -4097, -256, -61, -17, -2, 60, 61, 100, 119,
        120, 199, 211, 212, 240, 251, 252, 255, 256, 4094, 4095, 4096, 65536, Integer.MAX_VALUE - 1, Integer.MAX_VALUE};

    public static void main(String[] args) throws Exception {
        Method[] methods = Arrays.stream(WhatGame.class.getMethods())
            .filter(method -> method.getDeclaringClass() == WhatGame.class)
            .sorted(Comparator.comparing(Method::getName)).toArray(Method[]::new);
        for (int seed = 1; seed <= 600; seed++) {
            Random random = new Random(seed);
            WhatGame game = new WhatGame();
            // With the GAMES put in between these are 480 calls: an object is used for at most 512.
            for (int i = 0; i < 256; i++) {
                Method method = methods[random.nextInt(methods.length)];
                Object[] given = Arrays.stream(method.getParameterTypes()).map(type -> some(random, type)).toArray();
                if (i % 8 == 0) Due.game(game, "ab", random.nextInt(3) - 1, 241, 252 - 1 - random.nextInt(12));
                DUE.is(method.getName() + Arrays.toString(given) + " throws", throwing(game, method, given), 0);
            }
        }
        DUE.end();
    }

    private static int throwing(WhatGame game, Method method, Object[] given) throws Exception {
        try {
            method.invoke(game, given);
            return 0;
        } catch (InvocationTargetException thrown) {
            System.out.println(thrown.getCause());
            return 1;
        }
    }

    private static Object some(Random random, Class<?> type) {
        if (type == boolean.class) return random.nextBoolean();
        if (type == long.class) return random.nextBoolean() ? random.nextLong() : (long) random.nextInt(128);
        int kind = random.nextInt(10);
        if (kind == 0) return FAR[random.nextInt(FAR.length)];
        return kind == 1 ? random.nextInt() : random.nextInt(kind < 5 ? 64 : 8) - (kind == 9 ? 1 : 0);
    }
}
