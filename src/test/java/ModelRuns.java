import java.util.ArrayList;
import java.util.List;

/** Long runs of calls on the class and on a slow, plain model of the document side by side. */
public final class ModelRuns {
    private static final int RUNS = 400;
    private static final int CALLS = 512;

    private static long seed;

    private static int pick(int least, int most) {
        seed = seed * 6364136223846793005L + 1442695040888963407L;
        return least + (int) ((seed >>> 33) % (most - least + 1L));
    }

    /** Mostly within, at times at the ends or just outside, seldom far away. */
    private static int near(int least, int most) {
        int way = pick(0, 29);
        if (way == 0) return least - 1;
        if (way == 1) return most + 1;
        if (way == 2) return least;
        if (way == 3) return most;
        if (way == 4) return pick(0, 9) == 0 ? Integer.MIN_VALUE : least;
        if (way == 5) return pick(0, 9) == 0 ? Integer.MAX_VALUE : most;
        return pick(least, most);
    }

    public static void main(String[] args) {
        for (int run = 0; run < RUNS; run++) {
            seed = run * 7919L + 17;
            if (!sameAnswers(run)) System.exit(1);
        }
        System.out.println("ModelRuns: " + RUNS + " runs as due");
    }

    private static boolean sameAnswers(int run) {
        DishHouse house = new DishHouse();
        Model model = new Model();
        List<String> trace = new ArrayList<>();
        int flavour = run % 4;
        List<int[]> opening = flavour == 1 || flavour == 2 ? filledReels() : List.of();
        for (int call = 0; call < CALLS; call++) {
            int[] a = call < opening.size() ? opening.get(call) : draw(flavour, model);
            long got = ask(house, a);
            long want = model.ask(a);
            trace.add(call + ": " + java.util.Arrays.toString(a) + " answered " + got + ", due is " + want);
            if (got != want) {
                System.out.println("run " + run + " differs:");
                int from = Math.max(0, trace.size() - 40);
                for (String line : trace.subList(from, trace.size())) System.out.println("  " + line);
                return false;
            }
        }
        return true;
    }

    /** Without these calls hardly a run would come to products that are not 0. */
    private static List<int[]> filledReels() {
        List<int[]> calls = new ArrayList<>();
        int dishes = pick(2, 6);
        for (int d = 0; d < dishes; d++) {
            int form = pick(0, 2);
            int items = pick(5, 100);
            calls.add(new int[] {0, pick(-100, 100), pick(-100, 100)});
            calls.add(new int[] {2, d, form, items});
            for (int n = 0; n < 15; n++) calls.add(new int[] {4, d, form, pick(0, Math.min(items - 1, 30)), valueFor()});
            calls.add(new int[] {1, d, pick(0, 1) * pick(0, 30), pick(0, 1) == 0 ? pick(1, 9) : -pick(1, 9)});
        }
        return calls;
    }

    /** The number of a call, by its place in the face, and its arguments. */
    private static int[] draw(int flavour, Model m) {
        int[][] flavours = {
            {0, 1, 2, 3, 4, 4, 4, 4, 5, 6, 7, 8, 9, 10, 11, 12, 13, 14, 15, 16, 17, 18, 19, 20, 21, 22, 23, 24, 25, 26,
                27, 28, 29, 30},
            {1, 2, 3, 4, 4, 4, 4, 4, 4, 4, 4, 5, 5, 6, 6, 7, 7, 8, 8, 9, 10, 11, 11, 12, 12, 13, 13, 29},
            {1, 4, 4, 4, 14, 14, 15, 15, 16, 17, 17, 17, 18, 18, 19, 20, 20, 21, 21, 21, 21, 22, 22, 23, 30},
            {24, 25, 25, 25, 25, 25, 25, 26, 27, 27, 27, 28, 28, 28, 28, 29, 30}
        };
        int[] these = flavours[flavour];
        int call = these[pick(0, these.length - 1)];
        if (call == 16 || call == 26) call = pick(0, 4) == 0 ? call : 30;
        int size = m.dishes.size();
        int d = near(0, Math.max(0, size - 1));
        int e = near(0, Math.max(0, size - 1));
        int f = near(0, Math.max(0, size - 1));
        int g = near(0, Math.max(0, size - 1));
        int n = pick(0, 3) == 0 ? near(0, 100) : near(0, 12);
        switch (call) {
            case 0: return new int[] {0, near(-100, 100), near(-100, 100)};
            case 1: return new int[] {1, d, pick(0, 1) == 0 ? near(0, 30) : near(0, 5), near(-9, 9)};
            case 2: return new int[] {2, pick(0, 2) == 0 ? d : -1, pick(0, 2) > 0 ? 2 : near(0, 2), n};
            case 3: return new int[] {3, pick(0, 3) == 0 ? d : -1};
            case 4: return new int[] {4, d, pick(0, 9) == 0 ? near(0, 2) : formOf(m, d), n, valueFor()};
            case 5: return new int[] {5, d, pick(0, 9) == 0 ? near(0, 2) : formOf(m, d), n};
            case 6: return new int[] {6, d, near(0, 12), e, near(0, 12), near(0, 12)};
            case 7: return new int[] {7, d, pick(0, 1) == 0 ? near(0, 20) : near(0, 99), pick(0, 2) > 0 ? near(0, 20) : near(0, 99)};
            case 9: case 10: case 11: return new int[] {call, d, e};
            case 12: return new int[] {12, d, e, f};
            case 13: return new int[] {13, d, e, f, g};
            case 14: return new int[] {14, near(-1000, 1000), near(-1000, 1000)};
            case 15: return new int[] {15, near(0, 15), near(0, 15), near(-1000, 1000)};
            case 17: return new int[] {17, near(0, 1)};
            case 18: return new int[] {18, near(0, 15), near(0, 15)};
            case 19: return new int[] {19, near(0, 8), near(0, 8), near(5, 15), near(5, 15)};
            case 21: return new int[] {21, near(1, 100), pick(0, 1) == 0 ? near(1, 50) : near(1, 3)};
            case 22: return new int[] {22, near(0, Math.max(0, m.parts.size() - 1)), near(0, 1)};
            case 24: return new int[] {24, near(0, 7), near(0, 200), near(300, 1440)};
            case 25: return orderCall(m);
            case 27: return new int[] {27, pick(0, 1) == 0 ? near(0, 100000) : near(0, 5000)};
            case 28: return new int[] {28, near(0, 17)};
            case 29: return new int[] {29, near(0, 6)};
            default: return new int[] {call};
        }
    }

    private static int formOf(Model m, int d) {
        return m.has(d) ? m.dishes.get(d).form : 0;
    }

    private static int valueFor() {
        int way = pick(0, 9);
        if (way == 0) return pick(-40000, 40000);
        if (way == 1) return near(-500, 500);
        if (way == 2) return pick(0, 1) == 0 ? Integer.MIN_VALUE : Integer.MAX_VALUE;
        return pick(-130, 130);
    }

    private static int[] orderCall(Model m) {
        int kind = near(0, 5);
        int size = Math.max(0, m.orders.size() - 1);
        switch (kind) {
            case 0: return new int[] {25, 0, near(0, pick(0, 1) == 0 ? 30 : 600), near(0, 0)};
            case 1: return new int[] {25, 1, near(0, 359), near(0, 0)};
            case 2: return new int[] {25, 2, near(1, pick(0, 1) == 0 ? 30 : 600), near(0, 7)};
            case 3: return new int[] {25, 3, near(Math.max(0, size - 6), size), near(1, pick(0, 3) == 0 ? 50 : 3)};
            case 4: return new int[] {25, 4, near(1, pick(0, 1) == 0 ? 30 : 600), near(0, 0)};
            default: return new int[] {25, kind, near(0, 0), near(0, 0)};
        }
    }

    private static long ask(DishHouse h, int[] a) {
        switch (a[0]) {
            case 0: return h.dish(a[1], a[2]);
            case 1: return h.tune(a[1], a[2], a[3]);
            case 2: return h.reel(a[1], a[2], a[3]);
            case 3: return h.lose(a[1]);
            case 4: return h.put(a[1], a[2], a[3], a[4]);
            case 5: return h.get(a[1], a[2], a[3]);
            case 6: return h.copy(a[1], a[2], a[3], a[4], a[5]);
            case 7: return h.flag(a[1], a[2], a[3]);
            case 8: return h.unflag();
            case 9: return h.ticks(a[1], a[2]);
            case 10: return h.product(a[1], a[2]);
            case 11: return h.delay(a[1], a[2]);
            case 12: return h.three(a[1], a[2], a[3]);
            case 13: return h.four(a[1], a[2], a[3], a[4]);
            case 14: return h.beam(a[1], a[2]);
            case 15: return h.point(a[1], a[2], a[3]);
            case 16: return h.dark();
            case 17: return h.board(a[1]);
            case 18: return h.at(a[1], a[2]);
            case 19: return h.window(a[1], a[2], a[3], a[4]);
            case 20: return h.peak();
            case 21: return h.take(a[1], a[2]);
            case 22: return h.part(a[1], a[2]);
            case 23: return h.back();
            case 24: return h.source(a[1], a[2], a[3]);
            case 25: return h.order(a[1], a[2], a[3]);
            case 26: return h.wipe();
            case 27: return h.night(a[1]);
            case 28: return h.told(a[1]);
            case 29: return h.count(a[1]);
            default: return h.digest();
        }
    }

    private static final class Reel {
        int x;
        int y;
        int delay;
        int gain = 1;
        int form;
        int[] items;
    }

    /** The document said once more, as slowly and plainly as may be. */
    private static final class Model {
        static final int[] WAVE = {
            1000, 924, 707, 383, 0, -383, -707, -924, -1000, -924, -707, -383, 0, 383, 707, 924
        };
        final List<Reel> dishes = new ArrayList<>();
        final List<int[]> flags = new ArrayList<>();
        final List<int[]> points = new ArrayList<>();
        final List<long[]> parts = new ArrayList<>();
        final List<int[]> orders = new ArrayList<>();
        final int[][] sources = new int[8][];
        final long[][] board = new long[16][16];
        long[][] kept = new long[31][31];
        int[] window = {0, 0, 15, 15};
        int finding;
        int[] told = new int[18];

        Model() {
            told[4] = -1;
        }

        boolean has(int d) {
            return 0 <= d && d < dishes.size();
        }

        int find(int number) {
            finding = number;
            return -10 - number;
        }

        long ask(int[] a) {
            if (a[0] <= 8) return askReels(a);
            if (a[0] <= 13) return askPairs(a);
            if (a[0] <= 23) return askBoards(a);
            return askNights(a);
        }

        long askReels(int[] a) {
            switch (a[0]) {
                case 0:
                    if (Math.abs((long) a[1]) > 100 || Math.abs((long) a[2]) > 100) return -2;
                    if (dishes.size() == 6) return -3;
                    Reel made = new Reel();
                    made.x = a[1];
                    made.y = a[2];
                    dishes.add(made);
                    return dishes.size() - 1;
                case 1:
                    if (!has(a[1]) || a[2] < 0 || a[2] > 30 || a[3] < -9 || a[3] > 9 || a[3] == 0) return -2;
                    dishes.get(a[1]).delay = a[2];
                    dishes.get(a[1]).gain = a[3];
                    return 1;
                case 2:
                    if (!has(a[1]) || a[2] < 0 || a[2] > 2 || a[3] > 100) return -2;
                    if (a[3] < 0) return find(5);
                    dishes.get(a[1]).form = a[2];
                    dishes.get(a[1]).items = new int[a[3]];
                    return a[3];
                case 3:
                    if (!has(a[1])) return -2;
                    if (dishes.get(a[1]).items == null) return find(1);
                    int had = dishes.get(a[1]).items.length;
                    dishes.get(a[1]).items = null;
                    return had;
                case 4:
                case 5:
                    return item(a);
                case 6:
                    return copy(a);
                case 7:
                    if (!has(a[1]) || a[2] < 0 || a[2] > a[3] || a[3] > 99) return -2;
                    if (flags.size() == 40) return -3;
                    flags.add(a);
                    return flags.size();
                default:
                    if (flags.isEmpty()) return -4;
                    flags.remove(flags.size() - 1);
                    return flags.size();
            }
        }

        long item(int[] a) {
            boolean get = a[0] == 5;
            if (!has(a[1]) || a[2] < 0 || a[2] > 2) return get ? Integer.MIN_VALUE : -2;
            Reel r = dishes.get(a[1]);
            int fault = r.items == null ? 1 : r.form != a[2] ? 3 : a[3] < 0 || a[3] >= r.items.length ? 2 : 0;
            if (fault != 0) {
                find(fault);
                return get ? Integer.MIN_VALUE : -10 - fault;
            }
            if (get) return r.items[a[3]];
            int bits = r.form == 0 ? 24 : r.form == 1 ? 16 : 0;
            r.items[a[3]] = a[4] << bits >> bits;
            return 1;
        }

        long copy(int[] a) {
            if (!has(a[1]) || !has(a[3])) return -2;
            Reel d = dishes.get(a[1]);
            Reel e = dishes.get(a[3]);
            if (d.items == null || e.items == null) return find(1);
            if (d.form != e.form) return find(4);
            long i = a[2];
            long j = a[4];
            long n = a[5];
            if (i < 0 || j < 0 || n < 0 || i + n > d.items.length || j + n > e.items.length) return find(2);
            int[] were = d.items.clone();
            for (int k = 0; k < n; k++) e.items[(int) j + k] = were[(int) i + k];
            return 1;
        }

        boolean counts(int d, int item) {
            Reel r = dishes.get(d);
            if (r.items == null || item >= r.items.length) return false;
            for (int[] f : flags) {
                if (f[1] == d && f[2] <= item && item <= f[3]) return false;
            }
            return true;
        }

        int ticks(int i, int j) {
            int n = 0;
            for (int t = 0; t <= 99; t++) {
                if (counts(i, t + dishes.get(i).delay) && counts(j, t + dishes.get(j).delay)) n++;
            }
            return n;
        }

        long product(int i, int j, int delay) {
            Reel a = dishes.get(i);
            Reel b = dishes.get(j);
            long sum = 0;
            for (int t = 0; t <= 99; t++) {
                if (!counts(i, t + a.delay) || !counts(j, t + delay)) continue;
                long p = Math.min(500, Math.max(-500, (long) a.items[t + a.delay]));
                long q = Math.min(500, Math.max(-500, (long) b.items[t + delay]));
                sum += p * q * a.gain * b.gain;
            }
            return sum;
        }

        long product(int i, int j) {
            return product(i, j, dishes.get(j).delay);
        }

        java.math.BigInteger big(int i, int j) {
            return java.math.BigInteger.valueOf(product(i, j));
        }

        long askPairs(int[] a) {
            for (int k = 1; k < a.length; k++) {
                if (!has(a[k])) return a[0] == 10 ? Long.MIN_VALUE : -2;
                for (int l = 1; l < k && a[0] >= 12; l++) {
                    if (a[k] == a[l]) return -2;
                }
            }
            switch (a[0]) {
                case 9: return ticks(a[1], a[2]);
                case 10: return product(a[1], a[2]);
                case 11:
                    int best = 30;
                    for (int d = 30; d >= 0; d--) {
                        if (product(a[1], a[2], d) >= product(a[1], a[2], best)) best = d;
                    }
                    return best;
                case 12: return big(a[1], a[2]).multiply(big(a[2], a[3])).multiply(big(a[1], a[3])).signum();
                default:
                    return big(a[1], a[2]).multiply(big(a[3], a[4]))
                            .subtract(big(a[1], a[3]).multiply(big(a[2], a[4]))).signum();
            }
        }

        List<int[]> spacings() {
            List<int[]> all = new ArrayList<>();
            for (int i = 0; i < dishes.size(); i++) {
                for (int j = i + 1; j < dishes.size(); j++) {
                    if (ticks(i, j) == 0) continue;
                    Reel a = dishes.get(i);
                    Reel b = dishes.get(j);
                    all.add(new int[] {b.x - a.x, b.y - a.y, i, j});
                }
            }
            return all;
        }

        long beam(int x, int y) {
            long sum = 0;
            for (int[] s : spacings()) sum += WAVE[Math.floorMod(s[0] * x + s[1] * y, 16)];
            return sum;
        }

        void addBeam(int px, int py, long amount) {
            for (int y = 0; y < 16; y++) {
                for (int x = 0; x < 16; x++) board[y][x] += amount * kept[y - py + 15][x - px + 15];
            }
        }

        int make(int kind) {
            List<int[]> spacings = spacings();
            long[] products = new long[spacings.size()];
            for (int s = 0; s < products.length; s++) products[s] = product(spacings.get(s)[2], spacings.get(s)[3]);
            parts.clear();
            window = new int[] {0, 0, 15, 15};
            for (int y = -15; y <= 15; y++) {
                for (int x = -15; x <= 15; x++) {
                    kept[y + 15][x + 15] = 0;
                    for (int[] s : spacings) kept[y + 15][x + 15] += WAVE[Math.floorMod(s[0] * x + s[1] * y, 16)];
                }
            }
            for (int y = 0; y < 16; y++) {
                for (int x = 0; x < 16; x++) {
                    board[y][x] = 0;
                    for (int s = 0; s < products.length && kind == 0; s++) {
                        int[] uv = spacings.get(s);
                        board[y][x] += products[s] * WAVE[Math.floorMod(uv[0] * x + uv[1] * y, 16)];
                    }
                    for (int p = 0; p < points.size() && kind == 1; p++) {
                        int[] q = points.get(p);
                        board[y][x] += q[3] * kept[y - q[2] + 15][x - q[1] + 15];
                    }
                }
            }
            return spacings.size();
        }

        int peak() {
            long most = -1;
            int cell = 0;
            for (int c = 255; c >= 0; c--) {
                int x = c % 16;
                int y = c / 16;
                if (x < window[0] || y < window[1] || x > window[2] || y > window[3]) continue;
                if (Math.abs(board[y][x]) >= most) {
                    most = Math.abs(board[y][x]);
                    cell = c;
                }
            }
            return cell;
        }

        long take(int share, int times) {
            for (int n = 0; n < times && parts.size() < 200; n++) {
                int c = peak();
                if (kept[15][15] == 0) break;
                long a = board[c / 16][c % 16] * share / (100 * kept[15][15]);
                if (a == 0) break;
                addBeam(c % 16, c / 16, -a);
                parts.add(new long[] {c, a});
            }
            return parts.size();
        }

        static boolean cells(int... n) {
            for (int k : n) {
                if (k < 0 || k > 15) return false;
            }
            return true;
        }

        long askBoards(int[] a) {
            int had;
            switch (a[0]) {
                case 14:
                    boolean far = a[1] < -1000 || a[1] > 1000 || a[2] < -1000 || a[2] > 1000;
                    return far ? Integer.MIN_VALUE : beam(a[1], a[2]);
                case 15:
                    if (!cells(a[1], a[2]) || a[3] < -1000 || a[3] > 1000) return -2;
                    if (points.size() == 10) return -3;
                    points.add(a);
                    return points.size();
                case 16:
                    had = points.size();
                    points.clear();
                    return had;
                case 17: return a[1] == 0 || a[1] == 1 ? make(a[1]) : -2;
                case 18: return cells(a[1], a[2]) ? board[a[2]][a[1]] : Long.MIN_VALUE;
                case 19:
                    if (!cells(a[1], a[2], a[3], a[4]) || a[1] > a[3] || a[2] > a[4]) return -2;
                    window = new int[] {a[1], a[2], a[3], a[4]};
                    return count(5);
                case 20: return peak();
                case 21:
                    if (a[1] < 1 || a[1] > 100 || a[2] < 1 || a[2] > 50) return -2;
                    return parts.size() == 200 ? -3 : take(a[1], a[2]);
                case 22:
                    if (a[1] < 0 || a[1] >= parts.size() || a[2] < 0 || a[2] > 1) return Long.MIN_VALUE;
                    return parts.get(a[1])[a[2]];
                default:
                    if (parts.isEmpty()) return -4;
                    long[] p = parts.remove(parts.size() - 1);
                    addBeam((int) p[0] % 16, (int) p[0] / 16, p[1]);
                    return parts.size();
            }
        }

        boolean fits(int kind, int a, int b) {
            switch (kind) {
                case 0: return a >= 0 && a <= 600 && b == 0;
                case 1: return a >= 0 && a <= 359 && b == 0;
                case 2: return a >= 1 && a <= 600 && b >= 0 && b <= 7;
                case 3: return a >= 0 && a < orders.size() && b >= 1 && b <= 50;
                case 4: return a >= 1 && a <= 600 && b == 0;
                case 5: return a == 0 && b == 0;
                default: return false;
            }
        }

        boolean isUp(int s, int minute) {
            if (sources[s] == null) return true;
            return sources[s][0] <= minute % 1440 && minute % 1440 < sources[s][1];
        }

        int minutesFor(int[] o) {
            if (o[0] == 0 || o[0] == 2) return o[1];
            if (o[0] != 1 && o[0] != 5) return 0;
            int up = Math.floorMod(o[1] - told[1], 360);
            int degrees = up <= 180 ? up : 360 - up;
            return degrees % 6 == 0 ? degrees / 6 : degrees / 6 + 1;
        }

        int run(int last) {
            told = new int[18];
            boolean[] storm = new boolean[last + 700];
            int[] more = new int[60];
            for (int o = 0; o < orders.size(); o++) more[o] = orders.get(o)[2];
            int o = 0;
            while (o < orders.size()) {
                told[4] = o;
                if (told[3] == 2000) return 3;
                int[] now = orders.get(o);
                int minutes = minutesFor(now);
                if (told[0] + minutes > last) return 2;
                for (int k = 0; k < minutes && now[0] == 2; k++) {
                    if (!isUp(now[2], told[0] + k)) return 1;
                }
                for (int k = 0; k < minutes; k++) {
                    if (now[0] != 2 || storm[told[0] + k]) continue;
                    told[2]++;
                    told[10 + now[2]]++;
                }
                for (int k = 0; k < now[1] && now[0] == 4; k++) storm[told[0] + k] = true;
                told[3]++;
                told[0] += minutes;
                o++;
                if (now[0] == 1 || now[0] == 5) {
                    told[1] = now[1];
                    told[5] += minutes;
                }
                if (now[0] == 3) {
                    more[o - 1]--;
                    if (more[o - 1] >= 0) o = now[1];
                    else more[o - 1] = now[2];
                }
            }
            told[4] = -1;
            return 0;
        }

        int count(int what) {
            int cells = (window[2] + 1 - window[0]) * (window[3] + 1 - window[1]);
            int[] counts = {dishes.size(), flags.size(), points.size(), parts.size(), orders.size(), cells, finding};
            return what < 0 || what > 6 ? -2 : counts[what];
        }

        long digest() {
            long h = 17;
            for (int what = 0; what <= 5; what++) h = 31 * h + count(what);
            for (int i = 0; i < dishes.size(); i++) {
                for (int j = i + 1; j < dishes.size(); j++) h = 31 * (31 * h + ticks(i, j)) + product(i, j);
            }
            for (long[] line : board) {
                for (long cell : line) h = 31 * h + cell;
            }
            return h;
        }

        long askNights(int[] a) {
            switch (a[0]) {
                case 24:
                    if (a[1] < 0 || a[1] > 7 || a[2] < 0 || a[3] > 1440 || a[2] >= a[3]) return -2;
                    sources[a[1]] = new int[] {a[2], a[3]};
                    return 1;
                case 25:
                    if (!fits(a[1], a[2], a[3])) return -2;
                    if (orders.size() == 60) return -3;
                    orders.add(new int[] {a[1], a[2], a[3]});
                    return orders.size() - 1;
                case 26:
                    int had = orders.size();
                    orders.clear();
                    return had;
                case 27: return a[1] < 0 || a[1] > 100000 ? -2 : run(a[1]);
                case 28: return a[1] < 0 || a[1] > 17 || a[1] > 5 && a[1] < 10 ? -2 : told[a[1]];
                case 29: return count(a[1]);
                default: return digest();
            }
        }
    }
}
