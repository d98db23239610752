import java.lang.reflect.Method;
import java.lang.reflect.Modifier;

/** No call throws, whatever its numbers, in a bare object and in a full one. */
public final class ExtremesTest {
    private static final long[] NUMBERS = {Integer.MIN_VALUE, -100000, -3, -2, -1, 0, 1, 2, 3, 5, 6, 7, 8, 20, 21, 39, 40,
        63, 64, 99, 100, 200, 201, 400, 9999, 10000, Integer.MAX_VALUE};

    public static void main(String[] args) throws Exception {
        for (Method method : ListenWells.class.getDeclaredMethods()) {
            if (Modifier.isPublic(method.getModifiers())) {
                everyNumber(method, method.getParameterTypes(), new Object[method.getParameterCount()], 0);
            }
        }
        Check.end("ExtremesTest");
    }

    private static void everyNumber(Method method, Class<?>[] types, Object[] numbers, int from) throws Exception {
        if (from == numbers.length) {
            call(method, new ListenWells(), numbers);
            call(method, full(), numbers);
            return;
        }
        // feed() takes any number alike: a few are enough there
        for (int k = 0; k < NUMBERS.length; k += numbers.length > 3 ? 13 : 1) {
            numbers[from] = types[from] == long.class ? (Object) wide(NUMBERS[k]) : (Object) (int) NUMBERS[k];
            everyNumber(method, types, numbers, from + 1);
        }
    }

    private static long wide(long number) {
        return number == Integer.MIN_VALUE ? Long.MIN_VALUE : number == Integer.MAX_VALUE ? Long.MAX_VALUE : number;
    }

    private static void call(Method method, ListenWells x, Object[] numbers) {
        String threw = "";
        try {
            method.invoke(x, numbers);
        } catch (ReflectiveOperationException e) {
            threw = " threw " + e.getCause();
        }
        Check.due(method.getName() + java.util.Arrays.toString(numbers) + threw, threw.isEmpty() ? 0 : 1, 0);
    }

    private static ListenWells full() {
        ListenWells x = new ListenWells();
        for (int k = 0; k < 8; k++) {
            x.put(k, 0, k % 4);
            x.put(8 + k, 0, 3 - k % 4);
            x.put(8 + k, 2, 90);
            x.sink(k);
            x.listener(k, 2 * k);
            x.noise(k, 2 * k);
            x.heard(k, k);
            x.well(k, k % 2);
            Check.law(x, "says 30 / column;loses 1 % depth;digs 9 / kind;gives water / shaft;passes if day / mood = 0");
        }
        x.well(9, 1);
        x.well(10, 0);
        x.force(3);
        x.seasons(99, 60);
        x.image(0);
        x.dig(0, 1);
        Check.orders(x, "lie 0 in done % 8 times 20");
        Check.tape(x, "haul 0 times 20;hush 0 if day > 3".repeat(12));
        return x;
    }
}
