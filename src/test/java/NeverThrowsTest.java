import java.lang.reflect.InvocationTargetException;
import java.lang.reflect.Method;
import java.util.ArrayList;
import java.util.Arrays;
import java.util.Comparator;
import java.util.List;
import java.util.Random;

/**
 * No call throws for any arguments in any state, and one that answers an ERROR changes nothing but what told()
 * tells; PARTED has a TRACE of its own all the same.
 */
public final class NeverThrowsTest {
    private static final int RUNS = 600;
    private static final int CALLS = 512;
    private static final int[] EDGES = {0, 1, 2, 3, 4, 5, 6, 7, 8, 9, 10, 16, 23, 24, 25, 30, 31, 32, 59, 60, 61, 69, 70,
        98, 99, 100, -1, -2, -8, 255, 256, 65535, 65536, Integer.MIN_VALUE, Integer.MIN_VALUE + 1, Integer.MAX_VALUE,
        Integer.MAX_VALUE - 1, -1000000000, -1000000001};
    private static final String TEXT_BYTES = "csnpt0123456789|&<=>+-*/%!()";

    private static final Due due = new Due("NeverThrowsTest");
    private static Random draws;

    public static void main(String[] args) throws IllegalAccessException {
        List<Method> calls = new ArrayList<>();
        for (Method m : PromisedFish.class.getDeclaredMethods()) {
            if (java.lang.reflect.Modifier.isPublic(m.getModifiers())) {
                calls.add(m);
            }
        }
        calls.sort(Comparator.comparing(Method::getName));
        due.is("public methods", calls.size(), 37);
        for (int run = 0; run < RUNS; run++) {
            draws = new Random(run);
            PromisedFish fish = new PromisedFish();
            for (int call = 0; call < CALLS; call++) {
                act(fish, calls.get(draws.nextInt(calls.size())), run);
            }
        }
        due.end();
    }

    private static void act(PromisedFish fish, Method call, int run) throws IllegalAccessException {
        Class<?>[] types = call.getParameterTypes();
        Object[] values = new Object[types.length];
        for (int i = 0; i < types.length; i++) {
            values[i] = types[i] == long.class ? (Object) word() : (Object) number();
        }
        String name = "run " + run + ": " + call.getName() + Arrays.toString(values);
        boolean looks = draws.nextInt(8) == 0 && !call.getName().equals("told");
        int[] ahead = looks ? seen(fish) : null;
        int[] traceAhead = looks ? trace(fish) : null;
        int errorsAhead = errors(fish);
        int partedAhead = fish.told(6);
        try {
            call.invoke(fish, values);
        } catch (InvocationTargetException e) {
            due.is(name + " threw " + e.getCause(), 1, 0);
            return;
        }
        if (looks && errors(fish) > errorsAhead) {
            due.is(name + " answered an ERROR and changed something", Arrays.equals(seen(fish), ahead) ? 0 : 1, 0);
            if (fish.told(6) == partedAhead) {
                due.is(name + " answered an ERROR and changed THE TRACE", Arrays.equals(trace(fish), traceAhead) ? 0 : 1, 0);
            }
        }
    }

    private static int number() {
        int kind = draws.nextInt(10);
        return kind < 5 ? draws.nextInt(4) : kind < 9 ? EDGES[draws.nextInt(EDGES.length)] : draws.nextInt();
    }

    private static long word() {
        if (draws.nextInt(6) == 0) {
            return draws.nextLong();
        }
        long word = 0;
        for (int i = 0; i < 8; i++) {
            word = word << 8 | TEXT_BYTES.charAt(draws.nextInt(TEXT_BYTES.length()));
        }
        return word;
    }

    private static int errors(PromisedFish fish) {
        int all = 0;
        for (int k = 1; k <= 6; k++) {
            all += fish.told(k);
        }
        return all;
    }

    private static int[] trace(PromisedFish fish) {
        int[] all = new int[11];
        for (int i = 0; i < 10; i++) {
            all[i] = fish.body(i);
        }
        all[10] = fish.count(8);
        return all;
    }

    /** All but THE TRACE that calls tell which change nothing. */
    private static int[] seen(PromisedFish fish) {
        int[] all = new int[200];
        int n = 0;
        for (int what = 0; what < 10; what++) {
            all[n++] = what == 8 ? 0 : fish.count(what);
        }
        for (int boat = 0; boat < 6; boat++) {
            for (int what = 0; what < 8; what++) {
                all[n++] = fish.boatIs(boat, what);
            }
        }
        for (int f = 0; f < 4; f++) {
            all[n++] = fish.catches(f);
            all[n++] = fish.best(f, 1);
            all[n++] = fish.mean(f, 0);
        }
        for (int sheet = 0; sheet < 4; sheet++) {
            all[n++] = fish.fits(sheet, 0);
            all[n++] = fish.judge(sheet);
        }
        for (int use = 0; use < 2; use++) {
            for (int v = 0; v < 10; v++) {
                all[n++] = fish.law(use, v * 9, v * 5 % 10, 50 - v);
            }
        }
        return all;
    }
}
