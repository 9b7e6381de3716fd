import java.util.Arrays;

/** A row of dishes that watch one sky together; ../shared/DOC.md says what each call promises. */
public final class DishHouse {
    public static final int NONE = -1, BAD = -2, FULL = -3, NOT = -4;

    private static final int NULL = 1, INDEX = 2, CAST = 3, STORE = 4, SIZE = 5;
    private static final int LEAST_INT = -2147483648;
    private static final long LEAST_LONG = -9223372036854775808L;

    private static final int MOST_ITEMS = 100;
    private static final int MOST_DELAY = 30;
    private static final int SIDE = 16;
    private static final int CELLS = SIDE * SIDE;

    private final Row row = new Row();
    private final Spacings spacings = new Spacings();
    private final Points points = new Points();
    private final Board board = new Board();
    private final Program program = new Program();
    private final Run run = new Run();
    private int finding;

    public DishHouse() {
    }

    // ---- dishes, reels

    public int dish(int x, int y) {
        if (!isWithin(x, -100, 100) || !isWithin(y, -100, 100)) return BAD;
        return row.addDish(x, y);
    }

    public int tune(int dish, int delay, int gain) {
        Dish d = row.find(dish);
        if (d == null || !isWithin(delay, 0, MOST_DELAY)) return BAD;
        if (gain == 0 || !isWithin(gain, -9, 9)) return BAD;
        d.delay = delay;
        d.gain = gain;
        return 1;
    }

    public int reel(int dish, int form, int n) {
        Dish d = row.find(dish);
        if (d == null || !isForm(form) || n > MOST_ITEMS) return BAD;
        if (n < 0) return foundOut(SIZE);
        d.renew(form, n);
        return n;
    }

    public int lose(int dish) {
        Dish d = row.find(dish);
        if (d == null) return BAD;
        if (d.isLost()) return foundOut(NULL);
        int had = d.length;
        d.length = Dish.LOST;
        return had;
    }

    public int put(int dish, int form, int i, int v) {
        Dish d = row.find(dish);
        if (d == null || !isForm(form)) return BAD;
        int fault = d.faultOf(form, i);
        if (fault != 0) return foundOut(fault);
        d.store(i, v);
        return 1;
    }

    public int get(int dish, int form, int i) {
        Dish d = row.find(dish);
        if (d == null || !isForm(form)) return LEAST_INT;
        int fault = d.faultOf(form, i);
        if (fault != 0) {
            foundOut(fault);
            return LEAST_INT;
        }
        return d.load(i);
    }

    public int copy(int d, int i, int e, int j, int n) {
        Dish from = row.find(d);
        Dish to = row.find(e);
        if (from == null || to == null) return BAD;
        if (from.isLost() || to.isLost()) return foundOut(NULL);
        if (from.form != to.form) return foundOut(STORE);
        if (!from.hasSpan(i, n) || !to.hasSpan(j, n)) return foundOut(INDEX);
        System.arraycopy(from.items, i, to.items, j, n);
        return 1;
    }

    public int flag(int dish, int from, int to) {
        Dish d = row.find(dish);
        if (d == null || !isWithin(to, 0, MOST_ITEMS - 1) || !isWithin(from, 0, to)) return BAD;
        return row.addFlag(d, from, to);
    }

    public int unflag() {
        return row.removeFlag();
    }

    // ---- pairs

    public int ticks(int i, int j) {
        Dish a = row.find(i);
        Dish b = row.find(j);
        if (a == null || b == null) return BAD;
        return a.ticksWith(b);
    }

    public long product(int i, int j) {
        Dish a = row.find(i);
        Dish b = row.find(j);
        if (a == null || b == null) return LEAST_LONG;
        return a.productWith(b, b.delay);
    }

    public int delay(int i, int j) {
        Dish a = row.find(i);
        Dish b = row.find(j);
        if (a == null || b == null) return BAD;
        return a.bestDelayOf(b);
    }

    public int three(int i, int j, int k) {
        Dish a = row.find(i);
        Dish b = row.find(j);
        Dish c = row.find(k);
        if (a == null || b == null || c == null) return BAD;
        if (i == j || j == k || i == k) return BAD;
        // the product of three PRODUCTS does not fit a long, that of their signs does
        return signOf(a, b) * signOf(b, c) * signOf(a, c);
    }

    public int four(int i, int j, int k, int l) {
        Dish a = row.find(i);
        Dish b = row.find(j);
        Dish c = row.find(k);
        Dish d = row.find(l);
        if (a == null || b == null || c == null || d == null) return BAD;
        if (i == j || i == k || i == l || j == k || j == l || k == l) return BAD;
        // a PRODUCT is at most 100 * 500 * 500 * 9 * 9, so two of them multiplied fit a long
        long first = a.productWith(b, b.delay) * c.productWith(d, d.delay);
        long second = a.productWith(c, c.delay) * b.productWith(d, d.delay);
        return Long.compare(first, second);
    }

    // ---- boards

    public int beam(int x, int y) {
        if (!isWithin(x, -1000, 1000) || !isWithin(y, -1000, 1000)) return LEAST_INT;
        spacings.gather(row);
        return spacings.beamAt(x, y);
    }

    public int point(int x, int y, int flux) {
        if (!isCell(x, y) || !isWithin(flux, -1000, 1000)) return BAD;
        return points.add(x, y, flux);
    }

    public int dark() {
        int had = points.size;
        points.size = 0;
        return had;
    }

    public int board(int kind) {
        if (!isWithin(kind, 0, 1)) return BAD;
        spacings.gather(row);
        board.startWith(spacings);
        if (kind == 0) board.sumProducts(spacings);
        else board.sumPoints(points);
        return spacings.size;
    }

    public long at(int x, int y) {
        if (!isCell(x, y)) return LEAST_LONG;
        return board.cells[SIDE * y + x];
    }

    public int window(int x0, int y0, int x1, int y1) {
        if (!isCell(x0, y0) || !isCell(x1, y1)) return BAD;
        if (x0 > x1 || y0 > y1) return BAD;
        board.look(x0, y0, x1, y1);
        return board.windowCells();
    }

    public int peak() {
        return board.greatestCell();
    }

    public int take(int share, int times) {
        if (!isWithin(share, 1, 100) || !isWithin(times, 1, 50)) return BAD;
        if (board.parts >= Board.MOST_PARTS) return FULL;
        board.takeOff(share, times);
        return board.parts;
    }

    public long part(int k, int what) {
        if (!isWithin(k, 0, board.parts - 1) || !isWithin(what, 0, 1)) return LEAST_LONG;
        return what == 0 ? board.partCells[k] : board.partAmounts[k];
    }

    public int back() {
        if (board.parts <= 0) return NOT;
        board.putBack();
        return board.parts;
    }

    // ---- nights

    public int source(int s, int a, int b) {
        if (!isWithin(s, 0, Program.SOURCES - 1)) return BAD;
        if (a < 0 || b > Program.DAY || a >= b) return BAD;
        program.rises[s] = a;
        program.sets[s] = b;
        return 1;
    }

    public int order(int kind, int a, int b) {
        if (!program.fits(kind, a, b)) return BAD;
        return program.add(kind, a, b);
    }

    public int wipe() {
        int had = program.size;
        program.size = 0;
        return had;
    }

    public int night(int last) {
        if (!isWithin(last, 0, 100000)) return BAD;
        return run.follow(program, last);
    }

    public int told(int what) {
        int s = what - 10;
        if (s >= 0 && s < Program.SOURCES) return run.watchedOf[s];
        switch (what) {
            case 0: return run.minute;
            case 1: return run.azimuth;
            case 2: return run.watched;
            case 3: return run.finished;
            case 4: return run.endedAt;
            case 5: return run.turning;
            default: return BAD;
        }
    }

    public int count(int what) {
        switch (what) {
            case 0: return row.size;
            case 1: return row.flags;
            case 2: return points.size;
            case 3: return board.parts;
            case 4: return program.size;
            case 5: return board.windowCells();
            case 6: return finding;
            default: return BAD;
        }
    }

    public long digest() {
        long h = 17;
        for (int what = 0; what <= 5; what++) h = 31 * h + count(what);
        for (int i = 0; i < row.size; i++) {
            for (int j = i + 1; j < row.size; j++) {
                h = 31 * h + ticks(i, j);
                h = 31 * h + product(i, j);
            }
        }
        for (int c = 0; c < CELLS; c++) h = 31 * h + board.cells[c];
        return h;
    }

    private int foundOut(int number) {
        finding = number;
        return -10 - number;
    }

    private static boolean isWithin(int n, int least, int most) {
        return n >= least && n <= most;
    }

    private static boolean isForm(int form) {
        return form >= 0 && form <= 2;
    }

    private static boolean isCell(int x, int y) {
        return x >= 0 && x < SIDE && y >= 0 && y < SIDE;
    }

    private static int signOf(Dish a, Dish b) {
        return Long.compare(a.productWith(b, b.delay), 0);
    }

    /** One dish and its reel; the row of items is made once and used again by each new reel. */
    private static final class Dish {
        static final int LOST = -1;

        final int x;
        final int y;
        int delay = 0;
        int gain = 1;
        int form = 0;
        int length = LOST;
        final int[] items = new int[MOST_ITEMS];
        /** How many FLAGS lie on each item: a flag that goes must not free what another one holds. */
        final int[] flagged = new int[MOST_ITEMS];

        Dish(int x, int y) {
            this.x = x;
            this.y = y;
        }

        boolean isLost() {
            return length == LOST;
        }

        void renew(int newForm, int n) {
            form = newForm;
            length = n;
            Arrays.fill(items, 0);
        }

        boolean hasItem(int i) {
            return i >= 0 && i < length;
        }

        /** Items i to i + n - 1; the sum is taken as a long, as it may be above an int. */
        boolean hasSpan(int i, int n) {
            return i >= 0 && n >= 0 && (long) i + n <= length;
        }

        /** The FINDING of a call that treats item i as of a form, or 0. */
        int faultOf(int asForm, int i) {
            if (isLost()) return NULL;
            if (asForm != form) return CAST;
            return hasItem(i) ? 0 : INDEX;
        }

        void store(int i, int v) {
            if (!hasItem(i)) return;
            if (form == 0) items[i] = (byte) v;
            else if (form == 1) items[i] = (short) v;
            else items[i] = v;
        }

        int load(int i) {
            return hasItem(i) ? items[i] : 0;
        }

        void addFlags(int from, int to, int more) {
            for (int i = Math.max(from, 0); i <= to && i < MOST_ITEMS; i++) flagged[i] += more;
        }

        boolean hasUsable(int i) {
            return hasItem(i) && flagged[i] == 0;
        }

        int sampleAt(int i) {
            return Math.max(-500, Math.min(500, load(i)));
        }

        int ticksWith(Dish other) {
            int n = 0;
            for (int t = 0; t < MOST_ITEMS; t++) {
                if (hasUsable(t + delay) && other.hasUsable(t + other.delay)) n++;
            }
            return n;
        }

        /** THE PRODUCT, as if the other one had this delay. */
        long productWith(Dish other, int otherDelay) {
            long sum = 0;
            for (int t = 0; t < MOST_ITEMS; t++) {
                int mine = t + delay;
                int theirs = t + otherDelay;
                if (hasUsable(mine) && other.hasUsable(theirs)) {
                    sum += (long) sampleAt(mine) * other.sampleAt(theirs);
                }
            }
            return sum * gain * other.gain;
        }

        int bestDelayOf(Dish other) {
            int best = 0;
            long greatest = productWith(other, 0);
            for (int d = 1; d <= MOST_DELAY; d++) {
                long p = productWith(other, d);
                if (p > greatest) {
                    greatest = p;
                    best = d;
                }
            }
            return best;
        }
    }

    /** The dishes in their order, and the flags in theirs. */
    private static final class Row {
        static final int MOST_DISHES = 6;
        static final int MOST_FLAGS = 40;

        final Dish[] dishes = new Dish[MOST_DISHES];
        int size;
        final Dish[] flagDishes = new Dish[MOST_FLAGS];
        final int[] flagFroms = new int[MOST_FLAGS];
        final int[] flagTos = new int[MOST_FLAGS];
        int flags;

        Dish find(int d) {
            return d >= 0 && d < size ? dishes[d] : null;
        }

        int addDish(int x, int y) {
            if (size >= MOST_DISHES) return FULL;
            dishes[size] = new Dish(x, y);
            size++;
            return size - 1;
        }

        int addFlag(Dish d, int from, int to) {
            if (flags >= MOST_FLAGS) return FULL;
            flagDishes[flags] = d;
            flagFroms[flags] = from;
            flagTos[flags] = to;
            flags++;
            d.addFlags(from, to, 1);
            return flags;
        }

        int removeFlag() {
            if (flags <= 0) return NOT;
            flags--;
            Dish d = flagDishes[flags];
            if (d != null) d.addFlags(flagFroms[flags], flagTos[flags], -1);
            return flags;
        }
    }

    /** The spacings of a row as it is now; gathered anew by each call that needs them. */
    private static final class Spacings {
        static final int MOST_PAIRS = 15;
        static final int[] WAVE = {
            1000, 924, 707, 383, 0, -383, -707, -924, -1000, -924, -707, -383, 0, 383, 707, 924
        };

        final int[] us = new int[MOST_PAIRS];
        final int[] vs = new int[MOST_PAIRS];
        final long[] products = new long[MOST_PAIRS];
        int size;

        void gather(Row row) {
            size = 0;
            for (int i = 0; i < row.size; i++) {
                for (int j = i + 1; j < row.size; j++) addPair(row.find(i), row.find(j));
            }
        }

        private void addPair(Dish a, Dish b) {
            if (a == null || b == null || size >= MOST_PAIRS) return;
            if (a.ticksWith(b) == 0) return;
            us[size] = b.x - a.x;
            vs[size] = b.y - a.y;
            products[size] = a.productWith(b, b.delay);
            size++;
        }

        /** The mask is k modulo 16, for k below 0 too. */
        private int waveOf(int s, int x, int y) {
            return WAVE[(us[s] * x + vs[s] * y) & 15];
        }

        int beamAt(int x, int y) {
            int sum = 0;
            for (int s = 0; s < size; s++) sum += waveOf(s, x, y);
            return sum;
        }

        long productsAt(int x, int y) {
            long sum = 0;
            for (int s = 0; s < size; s++) sum += products[s] * waveOf(s, x, y);
            return sum;
        }
    }

    private static final class Points {
        static final int MOST_POINTS = 10;

        final int[] xs = new int[MOST_POINTS];
        final int[] ys = new int[MOST_POINTS];
        final int[] fluxes = new int[MOST_POINTS];
        int size;

        int add(int x, int y, int flux) {
            if (size >= MOST_POINTS) return FULL;
            xs[size] = x;
            ys[size] = y;
            fluxes[size] = flux;
            size++;
            return size;
        }
    }

    /** The board with the beam kept from when it was made, its window and the parts taken off. */
    private static final class Board {
        static final int MOST_PARTS = 200;

        final long[] cells = new long[CELLS];
        final int[] kept = new int[CELLS];
        final int[] partCells = new int[MOST_PARTS];
        final long[] partAmounts = new long[MOST_PARTS];
        int parts;
        int left = 0;
        int top = 0;
        int right = SIDE - 1;
        int bottom = SIDE - 1;

        void startWith(Spacings spacings) {
            parts = 0;
            look(0, 0, SIDE - 1, SIDE - 1);
            Arrays.fill(cells, 0L);
            for (int c = 0; c < CELLS; c++) kept[c] = spacings.beamAt(c % SIDE, c / SIDE);
        }

        void sumProducts(Spacings spacings) {
            for (int c = 0; c < CELLS; c++) cells[c] = spacings.productsAt(c % SIDE, c / SIDE);
        }

        void sumPoints(Points points) {
            for (int p = 0; p < points.size; p++) {
                addBeam(points.xs[p], points.ys[p], points.fluxes[p]);
            }
        }

        /** Places are whole, so a beam repeats each 16 cells and 16 by 16 of it are all. */
        private int keptAt(int x, int y) {
            return kept[SIDE * (y & 15) + (x & 15)];
        }

        private void addBeam(int x, int y, long amount) {
            for (int c = 0; c < CELLS; c++) {
                cells[c] += amount * keptAt(c % SIDE - x, c / SIDE - y);
            }
        }

        void look(int x0, int y0, int x1, int y1) {
            left = x0;
            top = y0;
            right = x1;
            bottom = y1;
        }

        int windowCells() {
            return (right - left + 1) * (bottom - top + 1);
        }

        int greatestCell() {
            int best = SIDE * top + left;
            for (int y = top; y <= bottom; y++) {
                for (int x = left; x <= right; x++) {
                    int c = SIDE * y + x;
                    if (amountAt(c) > amountAt(best)) best = c;
                }
            }
            return best;
        }

        private long amountAt(int c) {
            return Math.abs(cells[c]);
        }

        void takeOff(int share, int times) {
            long whole = 100L * keptAt(0, 0);
            if (whole == 0) return;
            for (int n = 0; n < times && parts < MOST_PARTS; n++) {
                int c = greatestCell();
                long amount = cells[c] * share / whole;
                if (amount == 0) return;
                addBeam(c % SIDE, c / SIDE, -amount);
                partCells[parts] = c;
                partAmounts[parts] = amount;
                parts++;
            }
        }

        void putBack() {
            if (parts <= 0) return;
            parts--;
            int c = partCells[parts];
            addBeam(c % SIDE, c / SIDE, partAmounts[parts]);
        }
    }

    /** The orders of a night, and when its sources are up. */
    private static final class Program {
        static final int WAIT = 0, POINT = 1, WATCH = 2, REPEAT = 3, STORM = 4, PARK = 5;
        static final int MOST_ORDERS = 60;
        static final int SOURCES = 8;
        static final int DAY = 1440;

        final int[] kinds = new int[MOST_ORDERS];
        final int[] as = new int[MOST_ORDERS];
        final int[] bs = new int[MOST_ORDERS];
        int size;
        final int[] rises = new int[SOURCES];
        final int[] sets = new int[SOURCES];

        Program() {
            // a source of which nothing is told is up all day
            Arrays.fill(sets, DAY);
        }

        boolean fits(int kind, int a, int b) {
            switch (kind) {
                case WAIT: return isWithin(a, 0, 600) && b == 0;
                case POINT: return isWithin(a, 0, 359) && b == 0;
                case WATCH: return isWithin(a, 1, 600) && isWithin(b, 0, SOURCES - 1);
                case REPEAT: return isWithin(a, 0, size - 1) && isWithin(b, 1, 50);
                case STORM: return isWithin(a, 1, 600) && b == 0;
                case PARK: return a == 0 && b == 0;
                default: return false;
            }
        }

        int add(int kind, int a, int b) {
            if (size >= MOST_ORDERS) return FULL;
            kinds[size] = kind;
            as[size] = a;
            bs[size] = b;
            size++;
            return size - 1;
        }

        /** Whether source s is up at all of so many minutes, of which there are fewer than a day has. */
        boolean isUp(int s, int from, int minutes) {
            if (s < 0 || s >= SOURCES) return false;
            if (rises[s] == 0 && sets[s] == DAY) return true;
            int start = from % DAY;
            return start >= rises[s] && start + minutes <= sets[s];
        }
    }

    /** The latest run of a program, and what is told of it. */
    private static final class Run {
        static final int BEHIND = 0, CLASH = 1, LATE = 2, SPENT = 3;
        static final int MOST_FINISHED = 2000;

        final int[] remaining = new int[Program.MOST_ORDERS];
        final int[] watchedOf = new int[Program.SOURCES];
        int minute;
        int azimuth;
        int watched;
        int finished;
        int endedAt = NONE;
        int turning;
        int stormEnd;

        int follow(Program program, int last) {
            startOver(program);
            int o = 0;
            for (int step = 0; step <= MOST_FINISHED && o < program.size; step++) {
                int why = whyNot(program, o, last);
                if (why != BEHIND) {
                    endedAt = o;
                    return why;
                }
                o = perform(program, o);
                finished++;
            }
            return BEHIND;
        }

        private void startOver(Program program) {
            minute = 0;
            azimuth = 0;
            watched = 0;
            finished = 0;
            endedAt = NONE;
            turning = 0;
            stormEnd = 0;
            Arrays.fill(watchedOf, 0);
            for (int o = 0; o < program.size; o++) remaining[o] = program.bs[o];
        }

        /** Why order o ends the run, BEHIND if it does not. */
        private int whyNot(Program program, int o, int last) {
            if (finished >= MOST_FINISHED) return SPENT;
            int minutes = minutesOf(program, o);
            if (minute + minutes > last) return LATE;
            if (program.kinds[o] != Program.WATCH) return BEHIND;
            return program.isUp(program.bs[o], minute, minutes) ? BEHIND : CLASH;
        }

        private int minutesOf(Program program, int o) {
            switch (program.kinds[o]) {
                case Program.WAIT:
                case Program.WATCH:
                    return program.as[o];
                case Program.POINT:
                case Program.PARK:
                    return turnTo(program.as[o]);
                default:
                    return 0;
            }
        }

        private int turnTo(int goal) {
            int degrees = Math.abs(goal - azimuth);
            int shorter = Math.min(degrees, 360 - degrees);
            return (shorter + 5) / 6;
        }

        /** Does order o; the number of the order that comes next. */
        private int perform(Program program, int o) {
            int minutes = minutesOf(program, o);
            switch (program.kinds[o]) {
                case Program.POINT:
                case Program.PARK:
                    turning += minutes;
                    azimuth = program.as[o];
                    break;
                case Program.WATCH:
                    watch(program.bs[o], minutes);
                    break;
                case Program.REPEAT:
                    return repeat(program, o);
                case Program.STORM:
                    stormEnd = Math.max(stormEnd, minute + program.as[o]);
                    break;
                default:
                    break;
            }
            minute += minutes;
            return o + 1;
        }

        private void watch(int s, int minutes) {
            if (s < 0 || s >= Program.SOURCES) return;
            int stormy = Math.max(0, Math.min(stormEnd - minute, minutes));
            watched += minutes - stormy;
            watchedOf[s] += minutes - stormy;
        }

        private int repeat(Program program, int o) {
            if (remaining[o] > 0) {
                remaining[o]--;
                return program.as[o];
            }
            remaining[o] = program.bs[o];
            return o + 1;
        }
    }
}
