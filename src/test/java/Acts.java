import java.lang.reflect.Method;
import java.util.Arrays;

/** Calls an act by its name, and knows in which form each act tells BAD. */
final class Acts {
    /** The calls of the digest, in its order. */
    static final String[] DIGESTED = {
        "count 0", "count 1", "count 2", "count 3", "count 4", "count 5", "count 6", "count 7",
        "fault 0", "hiccups 0", "level 0 0", "level 0 9", "level 0 23", "heard 0 7", "fright 0",
        "fault 1", "hiccups 1", "level 1 0", "level 1 9", "level 1 23", "heard 1 7", "fright 1",
        "fault 2", "hiccups 2", "level 2 0", "level 2 9", "level 2 23", "heard 2 7", "fright 2",
        "broken 0", "broken 1", "broken 2", "judged", "armistice 0", "armistice 1", "odds 4 5 0", "odds 4 5 1",
        "quiet 0 2 9 -1", "quiet 0 2 9 0", "quiet 1 2 9 -1", "quiet 1 2 9 0", "force 3 6 0", "force 3 6 1",
        "unlike", "parrot 0", "parrot 1", "trained 0 0", "trained 0 1", "trained 0 2"};

    private Acts() {
    }

    static long call(HiccupPeace x, String act, int... numbers) {
        Class<?>[] types = new Class<?>[numbers.length];
        Object[] values = new Object[numbers.length];
        for (int k = 0; k < numbers.length; k++) {
            types[k] = int.class;
            values[k] = numbers[k];
        }
        try {
            Method method = HiccupPeace.class.getMethod(act, types);
            return ((Number) method.invoke(x, values)).longValue();
        } catch (ReflectiveOperationException e) {
            throw new IllegalStateException(told(act, numbers), e);
        }
    }

    static long bad(String act) {
        switch (act) {
            case "odds": return Long.MIN_VALUE + 2;
            case "does": return -102;
            case "get": return Integer.MIN_VALUE;
            default: return -2;
        }
    }

    static String told(String act, int... numbers) {
        String row = Arrays.toString(numbers);
        return act + "(" + row.substring(1, row.length() - 1) + ")";
    }

    /** Of a row of a name and numbers, as in the digest, its name. */
    static String name(String row) {
        return row.split(" ")[0];
    }

    static int[] numbers(String row) {
        return Arrays.stream(row.split(" ")).skip(1).mapToInt(Integer::parseInt).toArray();
    }
}
