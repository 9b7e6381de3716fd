import java.lang.reflect.InvocationTargetException;
import java.lang.reflect.Method;

/** Each argument of each call far outside of what is told, one at a time: refused, and nothing throws. */
public final class FarCases extends Cases {
    /** The third and the sixth are 5 by their lowest bits. */
    private static final int[] FAR = {
        LEAST_INT, LEAST_INT + 1, -131067, -1001, 100001, 131077, MOST_INT - 1, MOST_INT
    };

    public static void main(String[] args) {
        far("promise 2", "dish", BAD, 5, 5);
        far("promise 3", "tune", BAD, 0, 5, 5);
        farAt("promise 4", "reel", BAD, 0, 0, BYTES, 5);
        farAt("promise 4", "reel", BAD, 1, 0, BYTES, 5);
        far("promise 5", "lose", BAD, 0);
        farAt("promise 6", "put", BAD, 0, 1, INTS, 5, 5);
        farAt("promise 6", "put", BAD, 1, 1, INTS, 5, 5);
        farFound("promise 6", "put", -10 - INDEX, 2, 1, INTS, 5, 5);
        farAt("promise 7", "get", LEAST_INT, 0, 1, INTS, 5);
        farAt("promise 7", "get", LEAST_INT, 1, 1, INTS, 5);
        farFound("promise 7", "get", LEAST_INT, 2, 1, INTS, 5);
        farAt("promise 8", "copy", BAD, 0, 1, 1, 2, 1, 2);
        farFound("promise 8", "copy", -10 - INDEX, 1, 1, 1, 2, 1, 2);
        farAt("promise 8", "copy", BAD, 2, 1, 1, 2, 1, 2);
        farFound("promise 8", "copy", -10 - INDEX, 3, 1, 1, 2, 1, 2);
        farFound("promise 8", "copy", -10 - INDEX, 4, 1, 1, 2, 1, 2);
        far("promise 9", "flag", BAD, 0, 5, 9);
        far("promise 11", "ticks", BAD, 0, 1);
        far("promise 12", "product", LEAST_LONG, 0, 1);
        far("promise 13", "delay", BAD, 0, 1);
        far("promise 14", "three", BAD, 0, 1, 2);
        far("promise 15", "four", BAD, 0, 1, 2, 3);
        far("promise 16", "beam", LEAST_INT, 5, 5);
        far("promise 17", "point", BAD, 5, 5, 5);
        far("promise 19", "board", BAD, 1);
        far("promise 20", "at", LEAST_LONG, 5, 5);
        far("promise 21", "window", BAD, 5, 5, 9, 9);
        far("promise 23", "take", BAD, 5, 5);
        far("promise 24", "part", LEAST_LONG, 0, 0);
        far("promise 26", "source", BAD, 5, 100, 500);
        farAt("promise 27", "order", BAD, 0, 2, 5, 5);
        for (int kind = 0; kind <= 5; kind++) {
            int a = kind == 5 ? 0 : 5;
            int b = kind == 2 || kind == 3 ? 5 : 0;
            farAt("promise 27", "order", BAD, 1, kind, a, b);
            farAt("promise 27", "order", BAD, 2, kind, a, b);
        }
        far("promise 29", "night", BAD, 500);
        far("promise 30", "told", BAD, 5);
        far("promise 31", "count", BAD, 5);
        end("FarCases");
    }

    private static void far(String promise, String call, long want, int... args) {
        for (int at = 0; at < args.length; at++) farAt(promise, call, want, at, args);
    }

    private static void farAt(String promise, String call, long want, int at, int... args) {
        for (int n : FAR) {
            int[] a = args.clone();
            a[at] = n;
            refused(name(promise, call, a), Cases::furnished, h -> ask(h, call, a), want);
        }
    }

    private static void farFound(String promise, String call, long want, int at, int... args) {
        for (int n : FAR) {
            int[] a = args.clone();
            a[at] = n;
            found(name(promise, call, a), Cases::furnished, h -> ask(h, call, a), want, INDEX);
        }
    }

    private static String name(String promise, String call, int[] args) {
        StringBuilder s = new StringBuilder(promise).append(' ').append(call).append(": far outside,");
        for (int a : args) s.append(' ').append(a);
        return s.toString();
    }

    private static long ask(DishHouse h, String call, int[] args) {
        for (Method m : DishHouse.class.getMethods()) {
            if (!m.getName().equals(call) || m.getDeclaringClass() != DishHouse.class) continue;
            Object[] all = new Object[args.length];
            for (int n = 0; n < all.length; n++) all[n] = args[n];
            try {
                return ((Number) m.invoke(h, all)).longValue();
            } catch (IllegalAccessException | InvocationTargetException e) {
                throw new IllegalStateException(e);
            }
        }
        throw new IllegalStateException("no call " + call);
    }
}
