import java.lang.reflect.Method;
import java.util.Arrays;

/** Calls an act by its name, and knows in which form each act tells BAD. */
final class Acts {
    private Acts() {
    }

    static long call(HiccupPeace x, String act, int... numbers) {
        Class<?>[] types = new Class<?>[numbers.length];
        Object[] values = new Object[numbers.length];
        for (int k = 0; k < numbers.length; k++) {
            types[k] = int.class;
            values[k] = numbers[k];
        }
        try {
            Method method = HiccupPeace.class.getMethod(act, types);
            return ((Number) method.invoke(x, values)).longValue();
        } catch (ReflectiveOperationException e) {
            throw new IllegalStateException(told(act, numbers), e);
        }
    }

    static long bad(String act) {
        switch (act) {
            case "odds": return Long.MIN_VALUE + 2;
            case "does": return -102;
            case "get": return Integer.MIN_VALUE;
            default: return -2;
        }
    }

    static String told(String act, int... numbers) {
        String row = Arrays.toString(numbers);
        return act + "(" + row.substring(1, row.length() - 1) + ")";
    }
}
