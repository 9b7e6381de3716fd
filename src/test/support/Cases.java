import java.util.ArrayList;
import java.util.HashSet;
import java.util.List;
import java.util.Set;
import java.util.function.Supplier;
import java.util.function.ToLongFunction;

/** What the classes of cases share: a case has a name, and a refused call leaves a house as it was. */
public abstract class Cases {
    static final int NONE = -1, BAD = -2, FULL = -3, NOT = -4;
    static final int NULL = 1, INDEX = 2, CAST = 3, STORE = 4, SIZE = 5;
    static final int LEAST_INT = Integer.MIN_VALUE;
    static final int MOST_INT = Integer.MAX_VALUE;
    static final long LEAST_LONG = Long.MIN_VALUE;
    static final int BYTES = 0, SHORTS = 1, INTS = 2;
    static final int[] WAVE = {
        1000, 924, 707, 383, 0, -383, -707, -924, -1000, -924, -707, -383, 0, 383, 707, 924
    };

    private static final Set<String> NAMES = new HashSet<>();
    private static String name;
    private static int wrong;

    static void due(String what, long got, long want) {
        if (got != want) tell(what + " answered " + got + ", due is " + want);
    }

    private static void tell(String what) {
        wrong++;
        System.out.println(name + ": " + what);
    }

    /** One case of one promise; no two have one name. */
    static void test(String caseName, Runnable body) {
        name = caseName;
        if (!NAMES.add(caseName)) tell("there are two of this name");
        try {
            body.run();
        } catch (RuntimeException e) {
            tell("a call threw " + e);
        }
    }

    /** A case of one call that is answered. */
    static void answers(String caseName, Supplier<DishHouse> setUp, ToLongFunction<DishHouse> call, long want) {
        test(caseName, () -> due("the call", call.applyAsLong(setUp.get()), want));
    }

    /** A case of a refusal BAD, FULL or NOT (or what stands for BAD): nothing at all is changed by it. */
    static void refused(String caseName, Supplier<DishHouse> setUp, ToLongFunction<DishHouse> call, long want) {
        test(caseName, () -> {
            DishHouse asked = setUp.get();
            DishHouse twin = setUp.get();
            due("the call", call.applyAsLong(asked), want);
            due("count(6) after it", asked.count(6), twin.count(6));
            alike(asked, twin);
        });
    }

    /** A case of a FINDING: nothing but count(6) is changed by it. */
    static void found(String caseName, Supplier<DishHouse> setUp, ToLongFunction<DishHouse> call, long want, int finding) {
        test(caseName, () -> {
            DishHouse asked = setUp.get();
            DishHouse twin = setUp.get();
            if (twin.count(6) == finding) tell("the set-up's finding is the one that is looked for");
            due("the call", call.applyAsLong(asked), want);
            due("count(6) after it", asked.count(6), finding);
            alike(asked, twin);
        });
    }

    static void found(String caseName, Supplier<DishHouse> setUp, ToLongFunction<DishHouse> call, int finding) {
        found(caseName, setUp, call, -10 - finding, finding);
    }

    private static void alike(DishHouse asked, DishHouse twin) {
        List<Long> got = drawnOut(asked);
        List<Long> want = drawnOut(twin);
        for (int n = 0; n < want.size(); n++) {
            if (got.get(n).equals(want.get(n))) continue;
            tell("it changed something: answer " + n + " of what is drawn out is " + got.get(n)
                    + " where its twin's is " + want.get(n));
            return;
        }
    }

    /** All that a house tells, drawn out by calls that use it up; some 250 of them. */
    private static List<Long> drawnOut(DishHouse h) {
        List<Long> all = new ArrayList<>();
        for (int what = 0; what <= 5; what++) all.add((long) h.count(what));
        addTold(all, h);
        all.add(h.digest());
        addReels(all, h);
        addBoard(all, h);
        for (int n = 0; n < 5; n++) {
            all.add((long) h.unflag());
            all.add(h.digest());
        }
        all.add((long) h.night(100000));
        addTold(all, h);
        all.add((long) h.order(3, 0, 1));
        all.add((long) h.night(100000));
        addTold(all, h);
        all.add((long) h.wipe());
        for (int d = 0; d < 6; d++) all.add((long) h.lose(d));
        all.add((long) h.dish(9, 8));
        return all;
    }

    private static void addTold(List<Long> all, DishHouse h) {
        for (int what = 0; what <= 5; what++) all.add((long) h.told(what));
        for (int s = 0; s < 8; s++) all.add((long) h.told(10 + s));
    }

    private static void addReels(List<Long> all, DishHouse h) {
        // both come here with findings of their own, which the caller has looked at; this makes them alike
        all.add((long) h.get(0, BYTES, -1));
        for (int d = 0; d < 6; d++) {
            all.add((long) h.ticks(d, d));
            all.add(h.product(d, d));
            for (int form = BYTES; form <= INTS; form++) {
                for (int i = 0; i < 4; i++) all.add((long) h.get(d, form, i));
                all.add((long) h.count(6));
            }
        }
    }

    private static void addBoard(List<Long> all, DishHouse h) {
        int[][] from = {{1, 0}, {0, 1}, {3, 5}, {-7, 2}};
        for (int[] p : from) all.add((long) h.beam(p[0], p[1]));
        for (int k = 0; k < 200; k += 199) {
            all.add(h.part(k, 0));
            all.add(h.part(k, 1));
        }
        all.add((long) h.peak());
        all.add((long) h.take(100, 1));
        all.add(h.digest());
        for (int n = 0; n < 5; n++) {
            all.add((long) h.back());
            all.add(h.digest());
        }
        all.add((long) h.board(1));
        all.add(h.digest());
        all.add((long) h.dark());
    }

    /** So many dishes at (0, 0), (1, 0), (2, 0) .. with reels of ints of so many items, all 0. */
    static DishHouse dishes(int dishes, int items) {
        DishHouse h = new DishHouse();
        for (int d = 0; d < dishes; d++) {
            h.dish(d, 0);
            h.reel(d, INTS, items);
        }
        return h;
    }

    static void fill(DishHouse h, int dish, int... values) {
        for (int i = 0; i < values.length; i++) h.put(dish, INTS, i, values[i]);
    }

    static void fillAll(DishHouse h, int dish, int items, int value) {
        for (int i = 0; i < items; i++) h.put(dish, INTS, i, value);
    }

    /** Two dishes of one tick that counts, with this spacing: one spacing alone, so the beam is a wave. */
    static DishHouse spaced(int u, int v) {
        DishHouse h = new DishHouse();
        h.dish(0, 0);
        h.dish(u, v);
        h.reel(0, INTS, 1);
        h.reel(1, INTS, 1);
        return h;
    }

    /** A house in which nothing is as at first, five dishes of which the fourth is lost; the finding is NULL. */
    static DishHouse furnished() {
        DishHouse h = new DishHouse();
        int[][] places = {{0, 0}, {1, 0}, {0, 3}, {5, 7}, {2, 2}};
        for (int[] p : places) h.dish(p[0], p[1]);
        h.reel(0, BYTES, 6);
        h.reel(1, INTS, 8);
        h.reel(2, INTS, 5);
        h.reel(4, SHORTS, 3);
        for (int i = 0; i < 6; i++) h.put(0, BYTES, i, 3 + i);
        fill(h, 1, -100, -60, -20, 20, 60, 100, 140, 1800);
        fill(h, 2, 7, 4, 1, -2, -5);
        for (int i = 0; i < 3; i++) h.put(4, SHORTS, i, 9 - i * i);
        h.tune(0, 1, 7);
        h.tune(1, 0, -3);
        h.tune(2, 2, 1);
        h.flag(0, 2, 2);
        h.flag(1, 0, 1);
        h.flag(3, 0, 4);
        h.point(3, 4, 1000);
        h.point(9, 2, -600);
        h.board(1);
        h.window(2, 1, 12, 14);
        h.take(40, 3);
        h.source(0, 90, 300);
        h.source(7, 10, 1440);
        furnishProgram(h);
        h.lose(3);
        return h;
    }

    private static void furnishProgram(DishHouse h) {
        h.order(0, 100, 0);
        h.order(1, 40, 0);
        for (int s = 0; s < 8; s++) h.order(2, 5, s);
        h.order(4, 3, 0);
        h.order(3, 2, 1);
        h.order(5, 0, 0);
        h.night(1000);
    }

    /** The same with SIZE as its finding, for cases that find NULL. */
    static DishHouse furnishedAfterSize() {
        DishHouse h = furnished();
        h.reel(0, BYTES, -1);
        return h;
    }

    static void end(String of) {
        System.out.println(of + ": " + NAMES.size() + " cases, " + (wrong == 0 ? "all as due" : wrong + " answers wrong"));
        if (wrong != 0) System.exit(1);
    }
}
