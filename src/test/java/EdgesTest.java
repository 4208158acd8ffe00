import java.lang.reflect.InvocationTargetException;
import java.lang.reflect.Method;
import java.lang.reflect.Modifier;
import java.util.ArrayList;
import java.util.Arrays;
import java.util.Comparator;
import java.util.List;
import java.util.Random;

/** All promises, for wrong numbers: no call throws, and what is refused changes nothing but status(). */
public final class EdgesTest {
    /** With a land that is read ahead of them no more calls than the 512 of an object. */
    private static final int RUNS = 2000, CALLS = 470;
    private static final int[] EDGES = {Integer.MIN_VALUE, Integer.MIN_VALUE + 1, -1000000, -129, -2, -1, 0, 0, 1, 1, 2, 2,
        3, 3, 4, 5, 5, 6, 7, 8, 9, 10, 11, 12, 15, 16, 23, 24, 25, 30, 31, 39, 40, 41, 99, 100, 101, 127, 128, 255, 256, 500,
        728, 729, 999, 1000, 32767, 32768, 65536, 1000000, Integer.MAX_VALUE - 1, Integer.MAX_VALUE};
    private static final String[] TEXTS = {
        "town 0;", "town 99;town 1;man 0;man 1;road 0 1;law 0 0 1 1 0;law 1 0 100 1 1;",
        "town 40;town 40;town 40;town 40;town 40;town 40;man 0;man 1;man 2;man 3;man 4;man 5;man 0;man 1;man 2;man 3;man 4;"
            + "man 5;road 0 1;road 1 2;road 2 3;road 3 4;road 4 5;road 5 0;road 0 3;road 1 4;law 0 0 100 1 0;law 1 0 50 1 0;",
    };

    public static void main(String[] args) throws IllegalAccessException {
        List<Method> calls = calls();
        for (int seed = 0; seed < RUNS; seed++) {
            run(seed, calls);
        }
        Check.end();
    }

    private static List<Method> calls() {
        List<Method> calls = new ArrayList<>();
        for (Method method : SeizedGoods.class.getDeclaredMethods()) {
            if (Modifier.isPublic(method.getModifiers())) {
                calls.add(method);
            }
        }
        calls.sort(Comparator.comparing(Method::getName));
        return calls;
    }

    /** Of two objects one gets all calls, the other only those that the first did not refuse: all else they answer is alike. */
    private static void run(int seed, List<Method> calls) throws IllegalAccessException {
        Random random = new Random(seed);
        SeizedGoods goods = new SeizedGoods();
        SeizedGoods twin = new SeizedGoods();
        if (seed % 5 != 0) {
            Check.read(goods, TEXTS[seed % 3]);
            Check.read(twin, TEXTS[seed % 3]);
        }
        for (int k = 0; k < CALLS; k++) {
            Method call = calls.get(random.nextInt(calls.size()));
            if (call.getName().equals("land") && random.nextInt(20) != 0) {
                continue;
            }
            Object[] numbers = numbers(call, random);
            String told = "run " + seed + ": " + call.getName() + Arrays.toString(numbers);
            try {
                int answer = (Integer) call.invoke(goods, numbers);
                if (!isRefusal(call.getName(), answer) && !call.getName().equals("status")) {
                    Check.due(told + " as if nothing had been refused", answer, (Integer) call.invoke(twin, numbers));
                }
            } catch (InvocationTargetException thrown) {
                Check.dueTrue(told + " threw " + thrown.getCause(), false);
            }
        }
    }

    private static Object[] numbers(Method call, Random random) {
        Object[] numbers = new Object[call.getParameterCount()];
        boolean wild = random.nextInt(4) == 0;
        for (int k = 0; k < numbers.length; k++) {
            int number = wild ? EDGES[random.nextInt(EDGES.length)] : random.nextInt(k == 2 ? 30 : 7);
            numbers[k] = call.getParameterTypes()[k] == long.class ? (Object) random.nextLong() : (Object) number;
        }
        return numbers;
    }

    /** A land that is faulty is none, as it empties the tape; nor is what an item becomes. */
    private static boolean isRefusal(String call, int answer) {
        return !call.equals("land") && !call.equals("set") && answer <= Check.BAD && answer >= Check.STORE;
    }
}
