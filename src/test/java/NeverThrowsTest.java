import java.lang.reflect.Method;
import java.lang.reflect.Modifier;
import java.util.ArrayList;
import java.util.Arrays;
import java.util.Comparator;
import java.util.List;
import java.util.Random;

/** Any arguments in any state, beyond the 512th call too: each call ends with an answer. */
public final class NeverThrowsTest {
    private static final Check CHECK = new Check("NeverThrowsTest");
    private static final long[] EDGES = {Long.MIN_VALUE, Long.MIN_VALUE + 1, Integer.MIN_VALUE - 1L, Integer.MIN_VALUE,
        Integer.MIN_VALUE + 1, -100000001, -100000000, -1000001, -1000000, -54321, -10, -2, -1, 0, 1, 2, 3, 4, 5, 6, 7,
        8, 9, 10, 11, 12, 15, 16, 17, 21, 22, 99, 100, 111, 132, 210, 255, 256, 321, 333, 1000, 1111, 2143, 3210, 4321,
        4432, 4444, 4445, 9999, 10000, 12345, 32154, 43210, 54321, 54322, 88888, 88889, 99999, 100000, 1000000, 1000001,
        100000000, 100000001, Integer.MAX_VALUE - 1, Integer.MAX_VALUE, Integer.MAX_VALUE + 1L, Long.MAX_VALUE};

    public static void main(String[] args) throws Exception {
        List<Method> calls = new ArrayList<>();
        for (Method method : MeetHouse.class.getDeclaredMethods()) {
            if (Modifier.isPublic(method.getModifiers())) {
                calls.add(method);
            }
        }
        calls.sort(Comparator.comparing(Method::getName));
        for (int seed = 0; seed < 40; seed++) {
            run(calls, new Random(seed));
        }
        pairs(calls);
        CHECK.end();
    }

    private static void run(List<Method> calls, Random random) throws Exception {
        MeetHouse house = new MeetHouse();
        for (int call = 0; call < 3000; call++) {
            Method method = calls.get(random.nextInt(calls.size()));
            Object[] arguments = new Object[method.getParameterCount()];
            for (int at = 0; at < arguments.length; at++) {
                long edge = random.nextInt(3) == 0 ? EDGES[random.nextInt(EDGES.length)] : random.nextInt(13);
                arguments[at] = argument(method, at, edge);
            }
            answers(house, method, arguments);
        }
    }

    /** Each edge at each place, with what is well told at the others. */
    private static void pairs(List<Method> calls) throws Exception {
        for (Method method : calls) {
            MeetHouse house = new MeetHouse();
            house.polynomial(1, 54321);
            house.polynomial(2, 2143);
            house.condition(10);
            house.rod(1, 1, 10);
            house.rod(2, 100, 1011);
            for (int at = 0; at < method.getParameterCount(); at++) {
                for (long edge : EDGES) {
                    for (int others = 0; others <= 2; others++) {
                        Object[] arguments = new Object[method.getParameterCount()];
                        for (int other = 0; other < arguments.length; other++) {
                            arguments[other] = argument(method, other, other == at ? edge : others);
                        }
                        answers(house, method, arguments);
                    }
                }
            }
        }
    }

    private static Object argument(Method method, int at, long value) {
        if (method.getParameterTypes()[at] == long.class) {
            return value;
        }
        return (int) value;
    }

    private static void answers(MeetHouse house, Method method, Object[] arguments) throws Exception {
        long got = ((Number) method.invoke(house, arguments)).longValue();
        boolean isTold = method.getReturnType() == long.class || got >= MeetHouse.FULL;
        CHECK.holds(method.getName() + Arrays.toString(arguments) + " answered " + got, isTold);
    }
}
