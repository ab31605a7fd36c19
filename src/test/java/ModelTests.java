import java.lang.reflect.InvocationTargetException;
import java.lang.reflect.Method;
import java.lang.reflect.Modifier;
import java.util.Arrays;
import java.util.Comparator;

/** Long runs of calls, on Monthyears and on TimeShelf: each answer, each exception and each digest is the same. */
public final class ModelTests {
    private static final int RUNS = 400;
    private static final int CALLS = 512;
    private static final int[] ODD = {
        0, 1, -1, 2, 3, 4, 5, 6, 7, 12, 13, 28, 29, 30, 31, 32, 59, 60, 61, 100, 365, 366, 367, 400, 1900, 1969, 1970,
        2000, 2023, 2024, -4, -100, -400, 999999598, 999999599, 999999600, 999999998, 999999999, 1000000000, -999999998,
        -999999999, -1000000000, 99999999, 100000000, -99999999, -100000000, Integer.MAX_VALUE, Integer.MIN_VALUE
    };

    // No random source: the same numbers come each time.
    private static long seed = 7792;

    public static void main(String[] arguments) throws Exception {
        Method[] face = face();
        int told = 0;
        for (int run = 0; run < RUNS && told < 20; run++) {
            told += run(run, face);
        }
        Checks.due("how many runs differ", 0, told);
        Checks.end("ModelTests");
    }

    private static Method[] face() {
        Method[] face = Arrays.stream(TimeShelf.class.getDeclaredMethods())
                .filter(method -> Modifier.isPublic(method.getModifiers()))
                .toArray(Method[]::new);
        Arrays.sort(face, Comparator.comparing(Method::getName));
        Checks.due("methods of the face", 55, face.length);
        return face;
    }

    private static int run(int run, Method[] face) throws Exception {
        Monthyears shelf = new Monthyears();
        TimeShelf model = new TimeShelf();
        for (int call = 0; call < CALLS; call++) {
            Method asked = call == CALLS - 1 ? TimeShelf.class.getMethod("digest") : face[next(face.length)];
            Object[] values = Arrays.stream(asked.getParameterTypes()).map(ModelTests::value).toArray();
            if (values.length > 0 && values[0] instanceof Integer && next(30) > 0) {
                values[0] = next(4);
            }
            Object want = answer(asked, model, values);
            Method mine = Monthyears.class.getMethod(asked.getName(), asked.getParameterTypes());
            Object got = answer(mine, shelf, values);
            if (!want.equals(got)) {
                String told = "run " + run + ", call " + call + ": " + asked.getName() + Arrays.toString(values);
                Checks.due(told, want, got);
                return 1;
            }
        }
        return 0;
    }

    private static Object answer(Method method, Object shelf, Object[] values) throws Exception {
        try {
            return method.invoke(shelf, values);
        } catch (InvocationTargetException thrown) {
            return thrown.getCause().getClass();
        }
    }

    private static Object value(Class<?> type) {
        if (type == boolean.class) {
            return next(2) == 1;
        }
        switch (next(8)) {
            case 0: case 1: case 2: return next(4);
            case 3: return next(14);
            case 4: return next(40) - 4;
            case 5: return ODD[next(ODD.length)];
            case 6: return next(400) - 10;
            default: return next(2000000100) - 1000000050;
        }
    }

    private static int next(int below) {
        seed = seed * 6364136223846793005L + 1442695040888963407L;
        return (int) ((seed >>> 33) % below);
    }
}
