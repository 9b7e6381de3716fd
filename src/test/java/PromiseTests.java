/** Each promise of the document by itself: ordinary inputs, named edges, refusals in their order. */
public final class PromiseTests {
    private static final int LEAST_INT = Integer.MIN_VALUE;
    private static final long LEAST_LONG = Long.MIN_VALUE;
    private static int promise;
    private static int wrong;

    private static void due(String call, long got, long want) {
        if (got == want) return;
        wrong++;
        System.out.println("promise " + promise + ": " + call + " answered " + got + ", due is " + want);
    }

    public static void main(String[] args) {
        newObject();
        dish();
        tune();
        reel();
        lose();
        put();
        get();
        copy();
        flag();
        unflag();
        ticks();
        product();
        delay();
        three();
        four();
        beam();
        point();
        dark();
        board();
        at();
        window();
        peak();
        take();
        part();
        back();
        source();
        order();
        wipe();
        nightEnds();
        nightTurns();
        nightSources();
        nightStorms();
        nightRepeats();
        told();
        count();
        digest();
        System.out.println(wrong == 0 ? "PromiseTests: all as due" : "PromiseTests: " + wrong + " wrong");
        if (wrong != 0) System.exit(1);
    }

    /** So many dishes at (0, 0), (1, 0), (2, 0) .. with reels of ints of so many items, all 0. */
    private static DishHouse dishes(int dishes, int items) {
        DishHouse h = new DishHouse();
        for (int d = 0; d < dishes; d++) {
            h.dish(d, 0);
            h.reel(d, 2, items);
        }
        return h;
    }

    private static void fill(DishHouse h, int dish, int... values) {
        for (int i = 0; i < values.length; i++) h.put(dish, 2, i, values[i]);
    }

    private static void newObject() {
        promise = 1;
        DishHouse h = new DishHouse();
        int[] counts = {0, 0, 0, 0, 0, 256, 0};
        for (int what = 0; what < counts.length; what++) due("count(" + what + ")", h.count(what), counts[what]);
        for (int y = 0; y < 16; y++) {
            for (int x = 0; x < 16; x++) due("at", h.at(x, y), 0);
        }
        due("take before any board", h.take(100, 50), 0);
        due("peak of nothing", h.peak(), 0);
        due("board(1)", h.board(1), 0);
        due("beam(0, 0)", h.beam(0, 0), 0);
        for (int s = 0; s < 8; s++) due("order", h.order(2, 600, s), s);
        due("all sources are up", h.night(100000), 0);
        due("told(0)", h.told(0), 4800);
    }

    private static void dish() {
        promise = 2;
        DishHouse h = new DishHouse();
        due("dish(-101, 0)", h.dish(-101, 0), -2);
        due("dish(101, 0)", h.dish(101, 0), -2);
        due("dish(0, -101)", h.dish(0, -101), -2);
        due("dish(0, 101)", h.dish(0, 101), -2);
        due("dish(least, most)", h.dish(Integer.MIN_VALUE, Integer.MAX_VALUE), -2);
        due("count(0)", h.count(0), 0);
        due("dish(-100, -100)", h.dish(-100, -100), 0);
        due("dish(100, 100)", h.dish(100, 100), 1);
        due("the same place again", h.dish(100, 100), 2);
        for (int d = 3; d < 6; d++) due("dish", h.dish(d, d), d);
        due("a seventh", h.dish(0, 0), -3);
        due("a bad seventh", h.dish(0, 101), -2);
        due("count(0)", h.count(0), 6);
        due("its reel is lost", h.lose(5), -11);
        h.reel(0, 2, 1);
        h.reel(1, 2, 1);
        h.put(0, 2, 0, 3);
        h.put(1, 2, 0, 5);
        due("delay 0, gain 1 at first", h.product(0, 1), 15);
    }

    private static void tune() {
        promise = 3;
        DishHouse h = dishes(2, 40);
        fill(h, 0, 2, 3);
        fill(h, 1, 5, 7);
        h.put(1, 2, 30, 11);
        due("tune(2, 0, 1)", h.tune(2, 0, 1), -2);
        due("tune(-1, 0, 1)", h.tune(-1, 0, 1), -2);
        due("tune(0, -1, 1)", h.tune(0, -1, 1), -2);
        due("tune(0, 31, 1)", h.tune(0, 31, 1), -2);
        due("tune(0, 0, 0)", h.tune(0, 0, 0), -2);
        due("tune(0, 0, 10)", h.tune(0, 0, 10), -2);
        due("tune(0, 0, -10)", h.tune(0, 0, -10), -2);
        due("refusals change nothing", h.product(0, 1), 31);
        due("tune(0, 0, -9)", h.tune(0, 0, -9), 1);
        due("product", h.product(0, 1), -279);
        due("tune(1, 30, 9)", h.tune(1, 30, 9), 1);
        due("product", h.product(0, 1), -1782);
        due("ticks", h.ticks(0, 1), 10);
    }

    private static void reel() {
        promise = 4;
        DishHouse h = new DishHouse();
        due("reel(0, 0, 1)", h.reel(0, 0, 1), -2);
        h.dish(0, 0);
        due("reel(-1, 0, 1)", h.reel(-1, 0, 1), -2);
        due("reel(1, 0, -1)", h.reel(1, 0, -1), -2);
        due("reel(0, -1, 1)", h.reel(0, -1, 1), -2);
        due("reel(0, 3, -1)", h.reel(0, 3, -1), -2);
        due("reel(0, 0, 101)", h.reel(0, 0, 101), -2);
        due("no finding", h.count(6), 0);
        due("reel(0, 0, -1)", h.reel(0, 0, -1), -15);
        due("count(6)", h.count(6), 5);
        due("reel(0, 2, least)", h.reel(0, 2, Integer.MIN_VALUE), -15);
        due("still lost", h.lose(0), -11);
        due("reel(0, 2, 100)", h.reel(0, 2, 100), 100);
        due("put", h.put(0, 2, 99, 7), 1);
        due("SIZE changes nothing", h.reel(0, 1, -1), -15);
        due("get", h.get(0, 2, 99), 7);
        due("a new row", h.reel(0, 1, 100), 100);
        due("it is 0", h.get(0, 1, 99), 0);
        due("reel(0, 0, 0)", h.reel(0, 0, 0), 0);
        due("ticks", h.ticks(0, 0), 0);
        due("lose", h.lose(0), 0);
    }

    private static void lose() {
        promise = 5;
        DishHouse h = dishes(1, 33);
        due("lose(1)", h.lose(1), -2);
        due("lose(-1)", h.lose(-1), -2);
        due("lose(0)", h.lose(0), 33);
        due("no finding yet", h.count(6), 0);
        due("ticks of a lost one", h.ticks(0, 0), 0);
        due("lose(0)", h.lose(0), -11);
        due("count(6)", h.count(6), 1);
    }

    private static void put() {
        promise = 6;
        DishHouse h = dishes(2, 3);
        h.reel(1, 0, 2);
        due("put(2, 0, 0, 0)", h.put(2, 0, 0, 0), -2);
        due("put(0, 3, 0, 0)", h.put(0, 3, 0, 0), -2);
        due("put(0, -1, 0, 0)", h.put(0, -1, 0, 0), -2);
        due("put(0, 2, 3, 0)", h.put(0, 2, 3, 0), -12);
        due("put(0, 2, -1, 0)", h.put(0, 2, -1, 0), -12);
        due("CAST ahead of INDEX", h.put(0, 0, 9, 0), -13);
        due("count(6)", h.count(6), 3);
        due("put(0, 2, 2, most)", h.put(0, 2, 2, Integer.MAX_VALUE), 1);
        due("an int", h.get(0, 2, 2), Integer.MAX_VALUE);
        due("put(1, 0, 1, 128)", h.put(1, 0, 1, 128), 1);
        due("a byte", h.get(1, 0, 1), -128);
        due("put(1, 0, 1, 511)", h.put(1, 0, 1, 511), 1);
        due("a byte", h.get(1, 0, 1), -1);
        h.reel(1, 1, 2);
        due("put(1, 1, 0, 32768)", h.put(1, 1, 0, 32768), 1);
        due("a short", h.get(1, 1, 0), -32768);
        due("put(1, 1, 0, -32769)", h.put(1, 1, 0, -32769), 1);
        due("a short", h.get(1, 1, 0), 32767);
        h.lose(0);
        due("NULL ahead of CAST", h.put(0, 1, 9, 0), -11);
    }

    private static void get() {
        promise = 7;
        DishHouse h = dishes(1, 2);
        fill(h, 0, 4, -5);
        due("get(0, 2, 1)", h.get(0, 2, 1), -5);
        due("get(1, 2, 0)", h.get(1, 2, 0), LEAST_INT);
        due("get(0, 3, 0)", h.get(0, 3, 0), LEAST_INT);
        due("get(0, -1, 0)", h.get(0, -1, 0), LEAST_INT);
        due("BAD is no finding", h.count(6), 0);
        due("get(0, 2, 2)", h.get(0, 2, 2), LEAST_INT);
        due("INDEX", h.count(6), 2);
        due("get(0, 1, -1)", h.get(0, 1, -1), LEAST_INT);
        due("CAST ahead of INDEX", h.count(6), 3);
        h.lose(0);
        due("get(0, 0, 0)", h.get(0, 0, 0), LEAST_INT);
        due("NULL ahead of CAST", h.count(6), 1);
    }

    private static void copy() {
        promise = 8;
        DishHouse h = dishes(4, 5);
        h.reel(2, 1, 3);
        h.lose(3);
        fill(h, 0, 1, 2, 3, 4, 5);
        due("copy(0, 0, 4, 0, 1)", h.copy(0, 0, 4, 0, 1), -2);
        due("copy(-1, 0, 0, 0, 1)", h.copy(-1, 0, 0, 0, 1), -2);
        due("from a lost one", h.copy(3, 0, 0, 0, 1), -11);
        due("to a lost one", h.copy(0, 9, 3, 0, 1), -11);
        due("STORE ahead of INDEX", h.copy(0, 9, 2, 0, 1), -14);
        due("count(6)", h.count(6), 4);
        due("i below 0", h.copy(0, -1, 1, 0, 1), -12);
        due("j below 0", h.copy(0, 0, 1, -1, 1), -12);
        due("n below 0", h.copy(0, 1, 1, 1, -1), -12);
        due("not so many", h.copy(0, 1, 1, 0, 5), -12);
        due("no room for so many", h.copy(0, 0, 1, 1, 5), -12);
        due("above an int", h.copy(0, 1, 1, 1, Integer.MAX_VALUE), -12);
        due("above an int", h.copy(0, Integer.MAX_VALUE, 1, 0, 1), -12);
        due("none, at the end", h.copy(0, 5, 1, 5, 0), 1);
        due("none, behind the end", h.copy(0, 6, 1, 5, 0), -12);
        due("none, behind the end of e", h.copy(0, 5, 1, 6, 0), -12);
        due("copy(0, 1, 1, 2, 3)", h.copy(0, 1, 1, 2, 3), 1);
        int[] want = {0, 0, 2, 3, 4};
        for (int i = 0; i < 5; i++) due("get(1, 2, " + i + ")", h.get(1, 2, i), want[i]);
        due("upward on itself", h.copy(0, 0, 0, 1, 4), 1);
        int[] upward = {1, 1, 2, 3, 4};
        for (int i = 0; i < 5; i++) due("get(0, 2, " + i + ")", h.get(0, 2, i), upward[i]);
        due("downward on itself", h.copy(0, 2, 0, 0, 3), 1);
        int[] downward = {2, 3, 4, 3, 4};
        for (int i = 0; i < 5; i++) due("get(0, 2, " + i + ")", h.get(0, 2, i), downward[i]);
    }

    private static void flag() {
        promise = 9;
        DishHouse h = dishes(2, 10);
        due("flag(2, 0, 0)", h.flag(2, 0, 0), -2);
        due("flag(-1, 0, 0)", h.flag(-1, 0, 0), -2);
        due("flag(0, -1, 0)", h.flag(0, -1, 0), -2);
        due("flag(0, 1, 0)", h.flag(0, 1, 0), -2);
        due("flag(0, 0, 100)", h.flag(0, 0, 100), -2);
        due("flag(0, 3, 5)", h.flag(0, 3, 5), 1);
        due("both ends are in it", h.ticks(0, 1), 7);
        h.tune(0, 2, 1);
        due("items, not ticks", h.ticks(0, 1), 5);
        h.tune(0, 6, 1);
        due("behind it all count", h.ticks(0, 1), 4);
        due("items that are not there", h.flag(1, 50, 99), 2);
        h.tune(0, 0, 1);
        h.reel(0, 2, 100);
        h.reel(1, 2, 100);
        due("it stays for a new reel", h.ticks(0, 1), 47);
        for (int n = 3; n <= 40; n++) due("flag", h.flag(1, 0, 0), n);
        due("one above 40", h.flag(1, 0, 0), -3);
        due("a bad one above 40", h.flag(1, 1, 0), -2);
        due("count(1)", h.count(1), 40);
    }

    private static void unflag() {
        promise = 10;
        DishHouse h = dishes(2, 10);
        due("unflag()", h.unflag(), -4);
        h.flag(0, 2, 6);
        h.flag(1, 0, 9);
        h.flag(0, 4, 8);
        due("ticks", h.ticks(0, 0), 3);
        due("unflag()", h.unflag(), 2);
        due("what two flags held one still holds", h.ticks(0, 0), 5);
        due("ticks(1, 1)", h.ticks(1, 1), 0);
        due("unflag()", h.unflag(), 1);
        due("ticks(1, 1)", h.ticks(1, 1), 10);
        due("unflag()", h.unflag(), 0);
        due("ticks", h.ticks(0, 0), 10);
        due("unflag()", h.unflag(), -4);
    }

    private static void ticks() {
        promise = 11;
        DishHouse h = dishes(3, 100);
        h.reel(1, 0, 20);
        h.lose(2);
        due("ticks(3, 0)", h.ticks(3, 0), -2);
        due("ticks(0, -1)", h.ticks(0, -1), -2);
        due("ticks(0, 0)", h.ticks(0, 0), 100);
        due("the shorter one", h.ticks(0, 1), 20);
        due("a lost one", h.ticks(0, 2), 0);
        h.tune(1, 5, 1);
        due("its own delay", h.ticks(0, 1), 15);
        due("the other way", h.ticks(1, 0), 15);
        h.tune(0, 30, 1);
        due("each its own", h.ticks(0, 1), 15);
        due("one twice", h.ticks(0, 0), 70);
        h.flag(0, 32, 33);
        h.flag(1, 7, 8);
        due("flagged at the same ticks", h.ticks(0, 1), 13);
        due("no findings", h.count(6), 0);
        DishHouse g = dishes(6, 1);
        due("ticks(5, 6) of six", g.ticks(5, 6), -2);
        due("ticks(6, 5) of six", g.ticks(6, 5), -2);
    }

    private static void product() {
        promise = 12;
        DishHouse h = dishes(3, 4);
        due("product(0, 3)", h.product(0, 3), LEAST_LONG);
        due("product(-1, 0)", h.product(-1, 0), LEAST_LONG);
        fill(h, 0, 1, -2, 501, -600);
        fill(h, 1, 3, 5, -7, Integer.MIN_VALUE);
        due("cut to 500 and -500", h.product(0, 1), 3 - 10 - 3500 + 250000);
        h.tune(0, 1, -2);
        h.tune(1, 0, 3);
        due("delays and gains", h.product(0, 1), -6L * (-2 * 3 + 500 * 5 + -500 * -7));
        due("the other way", h.product(1, 0), h.product(0, 1));
        due("one twice", h.product(0, 0), 4L * (4 + 250000 + 250000));
        h.lose(1);
        due("a lost one", h.product(0, 1), 0);
        DishHouse f = dishes(2, 3);
        fill(f, 0, 1, 2, 3);
        fill(f, 1, 4, 5, 6);
        f.flag(0, 1, 1);
        due("flagged for one", f.product(0, 1), 4 + 18);
        due("flagged for the other", f.product(1, 0), 4 + 18);
        f.flag(1, 2, 2);
        due("each flagged for one", f.product(0, 1), 4);
        DishHouse g = dishes(1, 100);
        for (int i = 0; i < 100; i++) g.put(0, 2, i, 1000);
        g.tune(0, 0, 9);
        due("the greatest", g.product(0, 0), 2025000000L);
    }

    private static void delay() {
        promise = 13;
        DishHouse h = dishes(2, 40);
        due("delay(0, 2)", h.delay(0, 2), -2);
        due("delay(-1, 0)", h.delay(-1, 0), -2);
        due("of like ones the least", h.delay(0, 1), 0);
        fill(h, 0, 0, 0, 10);
        h.put(1, 2, 32, 5);
        h.put(1, 2, 20, 4);
        due("30 too", h.delay(0, 1), 30);
        h.put(1, 2, 33, 6);
        due("31 not", h.delay(0, 1), 30);
        h.put(1, 2, 20, 5);
        due("of like ones the least", h.delay(0, 1), 18);
        h.tune(1, 7, 1);
        due("that it has does not count", h.delay(0, 1), 18);
        h.tune(0, 2, 1);
        due("that of the first one does", h.delay(0, 1), 20);
        h.tune(1, 0, -1);
        due("gains below 0: the least is 0", h.delay(0, 1), 0);
        due("it changes nothing", h.product(0, 1), 0);
        DishHouse f = dishes(2, 3);
        fill(f, 0, 1);
        fill(f, 1, 3, 4, 2);
        due("a delay of 1", f.delay(0, 1), 1);
        f.put(1, 2, 0, 5);
        due("a delay of 0", f.delay(0, 1), 0);
        DishHouse g = dishes(1, 8);
        fill(g, 0, 1, 0, 0, 9, 0, 0, -9, 0);
        g.tune(0, 3, 1);
        due("of one twice the first one's stays", g.delay(0, 0), 3);
        g.tune(0, 0, -2);
        due("of one twice", g.delay(0, 0), 0);
        g.tune(0, 0, 1);
        g.put(0, 2, 3, 500);
        g.put(0, 2, 0, 2);
        g.flag(0, 3, 3);
        due("flagged ones do not count", g.delay(0, 0), 0);
    }

    private static void three() {
        promise = 14;
        DishHouse h = dishes(4, 3);
        due("alike", h.three(0, 0, 1), -2);
        due("alike", h.three(0, 1, 1), -2);
        due("alike", h.three(0, 1, 0), -2);
        for (int none : new int[] {-1, 4, 5}) {
            due("no such one", h.three(none, 1, 2), -2);
            due("no such one", h.three(0, none, 2), -2);
            due("no such one", h.three(0, 1, none), -2);
        }
        due("nothing", h.three(0, 1, 2), 0);
        for (int d = 0; d < 4; d++) fill(h, d, 500, 500, 500);
        h.tune(0, 0, 9);
        h.tune(1, 0, -9);
        due("whatever the gains are", h.three(0, 1, 2), 1);
        fill(h, 0, 1, 0, 0);
        fill(h, 1, 1, -3, 0);
        fill(h, 2, -1, -1, 0);
        h.tune(1, 0, 1);
        due("1, 2, -1", h.three(0, 1, 2), -1);
        due("in another order", h.three(2, 0, 1), -1);
        fill(h, 3, 0, 0, 1);
        due("one of them 0", h.three(0, 1, 3), 0);
        DishHouse g = dishes(3, 100);
        for (int d = 0; d < 3; d++) {
            g.tune(d, 0, 9);
            for (int i = 0; i < 100; i++) g.put(d, 2, i, d == 0 && i == 0 ? -500 : 500);
        }
        due("above a long", g.three(0, 1, 2), 1);
    }

    private static void four() {
        promise = 15;
        DishHouse h = dishes(5, 3);
        for (int none : new int[] {-1, 5, 6}) {
            due("no such one", h.four(none, 1, 2, 3), -2);
            due("no such one", h.four(0, none, 2, 3), -2);
            due("no such one", h.four(0, 1, none, 3), -2);
            due("no such one", h.four(0, 1, 2, none), -2);
        }
        for (int a = 0; a < 4; a++) {
            for (int b = a + 1; b < 4; b++) {
                int[] n = {0, 1, 2, 3};
                n[b] = n[a];
                due("alike", h.four(n[0], n[1], n[2], n[3]), -2);
            }
        }
        due("nothing", h.four(0, 1, 2, 3), 0);
        fill(h, 0, 1, 0, 0);
        fill(h, 1, 1, 1, 0);
        fill(h, 2, 0, 1, 0);
        fill(h, 3, 0, 1, 1);
        due("1 * 1 less 0 * 1", h.four(0, 1, 2, 3), 1);
        due("0 * 1 less 1 * 1", h.four(0, 2, 1, 3), -1);
        h.tune(2, 0, -3);
        due("both signs turn", h.four(0, 1, 2, 3), -1);
        DishHouse g = dishes(4, 100);
        for (int d = 0; d < 4; d++) {
            g.tune(d, 0, d < 2 ? 9 : -9);
            for (int i = 0; i < 100; i++) g.put(d, 2, i, 500);
        }
        due("alike and great", g.four(0, 1, 2, 3), 0);
        g.put(0, 2, 0, -500);
        g.put(2, 2, 0, -500);
        due("great", g.four(0, 1, 2, 3), -1);
    }

    private static void beam() {
        promise = 16;
        DishHouse h = new DishHouse();
        h.dish(2, -1);
        h.dish(3, 4);
        h.dish(-100, 100);
        due("no reels", h.beam(0, 0), 0);
        h.reel(0, 0, 1);
        h.reel(1, 0, 1);
        h.reel(2, 0, 1);
        h.tune(2, 30, 1);
        int[] wave = {1000, 924, 707, 383, 0, -383, -707, -924, -1000, -924, -707, -383, 0, 383, 707, 924};
        for (int k = -20; k <= 20; k++) {
            due("beam(" + k + ", 0)", h.beam(k, 0), wave[Math.floorMod(k, 16)]);
            due("beam(0, " + k + ")", h.beam(0, k), wave[Math.floorMod(5 * k, 16)]);
        }
        due("beam(1, 1)", h.beam(1, 1), wave[6]);
        h.tune(2, 0, 1);
        h.reel(2, 0, 1);
        due("three spacings", h.beam(0, 0), 3000);
        due("each of them", h.beam(1, 0), wave[1] + wave[Math.floorMod(-102, 16)] + wave[Math.floorMod(-103, 16)]);
        due("beam(-1000, 1000)", h.beam(-1000, 1000), wave[Math.floorMod(4000, 16)]
                + wave[Math.floorMod(102000 + 101000, 16)] + wave[Math.floorMod(103000 + 96000, 16)]);
        due("beam(1001, 0)", h.beam(1001, 0), LEAST_INT);
        due("beam(-1001, 0)", h.beam(-1001, 0), LEAST_INT);
        due("beam(0, 1001)", h.beam(0, 1001), LEAST_INT);
        due("beam(0, -1001)", h.beam(0, -1001), LEAST_INT);
        h.flag(1, 0, 0);
        due("flagged ticks do not count", h.beam(0, 0), 1000);
    }

    private static void point() {
        promise = 17;
        DishHouse h = dishes(2, 1);
        due("point(-1, 0, 1)", h.point(-1, 0, 1), -2);
        due("point(0, 16, 1)", h.point(0, 16, 1), -2);
        due("point(0, -1, 1)", h.point(0, -1, 1), -2);
        due("point(16, 0, 1)", h.point(16, 0, 1), -2);
        due("point(0, 0, 1001)", h.point(0, 0, 1001), -2);
        due("point(0, 0, -1001)", h.point(0, 0, -1001), -2);
        due("point(15, 15, 1000)", h.point(15, 15, 1000), 1);
        due("point(0, 0, -1000)", h.point(0, 0, -1000), 2);
        due("a flux of 0", h.point(3, 3, 0), 3);
        due("a cell twice", h.point(0, 0, 1), 4);
        for (int n = 5; n <= 10; n++) due("point", h.point(n, n, n), n);
        due("an eleventh", h.point(0, 0, 0), -3);
        due("a bad eleventh", h.point(0, 0, 2000), -2);
        due("count(2)", h.count(2), 10);
    }

    private static void dark() {
        promise = 18;
        DishHouse h = dishes(2, 1);
        due("dark()", h.dark(), 0);
        h.point(1, 0, 5);
        h.point(2, 0, 7);
        h.board(1);
        long was = h.at(1, 0);
        due("dark()", h.dark(), 2);
        due("the board stays", h.at(1, 0), was);
        due("count(2)", h.count(2), 0);
        due("board(1)", h.board(1), 1);
        due("no points", h.at(1, 0), 0);
        due("a point again", h.point(1, 0, 1), 1);
    }

    private static void board() {
        promise = 19;
        DishHouse h = dishes(3, 2);
        due("board(-1)", h.board(-1), -2);
        due("board(2)", h.board(2), -2);
        fill(h, 0, 2, 3);
        fill(h, 1, 5, -1);
        fill(h, 2, 0, 4);
        due("board(0)", h.board(0), 3);
        int[] wave = {1000, 924, 707, 383, 0, -383, -707, -924, -1000, -924, -707, -383, 0, 383, 707, 924};
        for (int x = 0; x < 16; x++) {
            due("at", h.at(x, 9), 7L * wave[x] - 4L * wave[x] + 12L * wave[2 * x % 16]);
        }
        h.window(1, 1, 2, 2);
        h.take(100, 2);
        h.lose(2);
        h.point(3, 0, 2);
        h.point(15, 15, -5);
        due("the board stays till it is made anew", h.count(5), 4);
        due("board(1)", h.board(1), 1);
        due("no parts", h.count(3), 0);
        due("the window is all", h.count(5), 256);
        for (int x = 0; x < 16; x++) {
            due("at", h.at(x, 5), 2L * wave[Math.floorMod(x - 3, 16)] - 5L * wave[Math.floorMod(x - 15, 16)]);
        }
        h.window(1, 1, 2, 2);
        h.take(100, 2);
        int parts = h.count(3);
        due("board(3)", h.board(3), -2);
        due("a refusal changes nothing", h.count(3), parts);
        due("a refusal changes nothing", h.count(5), 4);
        h.lose(1);
        due("no spacings", h.board(0), 0);
        due("all 0", h.at(0, 0), 0);
    }

    private static void at() {
        promise = 20;
        DishHouse h = new DishHouse();
        h.dish(0, 0);
        h.dish(1, 3);
        h.reel(0, 0, 1);
        h.reel(1, 0, 1);
        h.put(0, 0, 0, 2);
        h.put(1, 0, 0, 1);
        h.board(0);
        due("at(0, 0)", h.at(0, 0), 2000);
        due("at(1, 0)", h.at(1, 0), 1848);
        due("at(0, 1)", h.at(0, 1), 766);
        due("at(15, 15)", h.at(15, 15), 0);
        due("at(16, 0)", h.at(16, 0), LEAST_LONG);
        due("at(-1, 0)", h.at(-1, 0), LEAST_LONG);
        due("at(0, 16)", h.at(0, 16), LEAST_LONG);
        due("at(0, -1)", h.at(0, -1), LEAST_LONG);
    }

    private static void window() {
        promise = 21;
        DishHouse h = new DishHouse();
        due("window(2, 3, 5, 4)", h.window(2, 3, 5, 4), 8);
        due("count(5)", h.count(5), 8);
        int[][] bad = {
            {-1, 0, 1, 1}, {0, -1, 1, 1}, {0, 0, 16, 1}, {0, 0, 1, 16}, {2, 0, 1, 1}, {0, 2, 1, 1}, {16, 16, 16, 16}
        };
        for (int[] w : bad) due("a bad window", h.window(w[0], w[1], w[2], w[3]), -2);
        due("count(5)", h.count(5), 8);
        due("peak()", h.peak(), 50);
        due("one cell", h.window(15, 15, 15, 15), 1);
        due("peak()", h.peak(), 255);
        due("all", h.window(0, 0, 15, 15), 256);
    }

    /** Two dishes with u, v 1, 1 and points: the beam is WAVE (x + y). */
    private static DishHouse slanted() {
        DishHouse h = new DishHouse();
        h.dish(0, 0);
        h.dish(1, 1);
        h.reel(0, 0, 1);
        h.reel(1, 0, 1);
        return h;
    }

    private static void peak() {
        promise = 22;
        DishHouse h = slanted();
        h.point(5, 0, 10);
        h.board(1);
        due("of like ones the least y, then x", h.peak(), 5);
        h.window(0, 1, 3, 15);
        due("y ahead of x; below 0 counts by its amount", h.peak(), 16 * 2 + 3);
        h.window(10, 0, 15, 2);
        due("the least amount is that below 0", h.peak(), 13);
        h.window(2, 7, 3, 8);
        due("at the window's end", h.peak(), 16 * 8 + 3);
        h.window(6, 0, 15, 15);
        due("of like ones", h.peak(), 13);
    }

    private static void take() {
        promise = 23;
        DishHouse h = slanted();
        due("take(0, 1)", h.take(0, 1), -2);
        due("take(101, 1)", h.take(101, 1), -2);
        due("take(1, 0)", h.take(1, 0), -2);
        due("take(1, 51)", h.take(1, 51), -2);
        h.point(5, 0, -10);
        h.board(1);
        due("take(50, 1)", h.take(50, 1), 1);
        due("its amount is below 0", h.part(0, 1), -5);
        due("at", h.at(5, 0), -5000);
        due("at the cell across", h.at(13, 0), 5000);
        due("take(50, 1)", h.take(50, 1), 2);
        due("cut toward 0", h.part(1, 1), -2);
        due("at", h.at(5, 0), -3000);
        due("it ends where A is 0", h.take(50, 50), 4);
        due("at", h.at(5, 0), -1000);
        due("A is 1 by 100", h.take(1, 50), 4);
        h.lose(0);
        due("the kept beam stays", h.take(100, 50), 5);
        due("at", h.at(5, 0), 0);
        DishHouse g = new DishHouse();
        g.board(1);
        due("no beam", g.take(100, 50), 0);
        takeAcross();
        fillParts();
    }

    /** A peak away from the first row and column; each cell of the board that is left is looked at. */
    private static void takeAcross() {
        DishHouse h = slanted();
        h.point(6, 3, 1000);
        h.board(1);
        h.window(6, 3, 6, 3);
        due("take(99, 1)", h.take(99, 1), 1);
        due("A", h.part(0, 1), 990);
        DishHouse g = slanted();
        g.point(6, 3, 10);
        g.board(1);
        int c = 0;
        for (int y = 0; y < 16; y++) {
            for (int x = 0; x < 16; x++) due("cell " + c++, h.at(x, y), g.at(x, y));
        }
        due("back()", h.back(), 0);
        due("at(6, 3)", h.at(6, 3), 1000000);
        due("at(0, 0)", h.at(0, 0), -924000);
        due("at(7, 9)", h.at(7, 9), 100 * g.at(7, 9));
    }

    /** 200 parts: with so small a share the board lasts long enough. */
    private static void fillParts() {
        DishHouse h = dishes(6, 100);
        for (int d = 0; d < 6; d++) {
            h.tune(d, 0, 9);
            for (int i = 0; i < 40; i++) h.put(d, 2, i, 500);
        }
        h.board(0);
        int n = 0;
        for (int t = 0; t < 10 && n < 200; t++) n = h.take(1, 50);
        due("200 at most", n, 200);
        due("count(3)", h.count(3), 200);
        due("BAD ahead of FULL", h.take(0, 1), -2);
        due("FULL", h.take(1, 1), -3);
        due("back", h.back(), 199);
        due("it ends at 200", h.take(1, 50), 200);
        h.window(0, 0, 15, 15);
        due("FULL ahead of any", h.take(100, 50), -3);
    }

    private static void part() {
        promise = 24;
        DishHouse h = slanted();
        h.point(3, 2, 7);
        h.board(1);
        due("part(0, 0)", h.part(0, 0), LEAST_LONG);
        h.window(3, 2, 15, 15);
        due("take", h.take(100, 1), 1);
        due("part(0, 0)", h.part(0, 0), 16 * 2 + 3);
        due("part(0, 1)", h.part(0, 1), 7);
        due("part(0, 2)", h.part(0, 2), LEAST_LONG);
        due("part(0, -1)", h.part(0, -1), LEAST_LONG);
        due("part(1, 0)", h.part(1, 0), LEAST_LONG);
        due("part(-1, 0)", h.part(-1, 0), LEAST_LONG);
        h.back();
        due("part(0, 1)", h.part(0, 1), LEAST_LONG);
    }

    private static void back() {
        promise = 25;
        DishHouse h = dishes(4, 1);
        h.point(3, 2, 7);
        h.point(9, 2, -6);
        h.board(1);
        due("back()", h.back(), -4);
        long[] was = new long[256];
        for (int c = 0; c < 256; c++) was[c] = h.at(c % 16, c / 16);
        due("take", h.take(60, 4), 4);
        long sum = 0;
        for (int c = 0; c < 256; c++) sum += Math.abs(h.at(c % 16, c / 16) - was[c]);
        due("the board is another", sum > 0 ? 1 : 0, 1);
        h.lose(0);
        h.window(1, 1, 1, 1);
        for (int left = 3; left >= 0; left--) due("back()", h.back(), left);
        for (int c = 0; c < 256; c++) due("nothing is lost", h.at(c % 16, c / 16), was[c]);
        due("back()", h.back(), -4);
    }

    private static void source() {
        promise = 26;
        DishHouse h = new DishHouse();
        due("source(-1, 0, 1)", h.source(-1, 0, 1), -2);
        due("source(8, 0, 1)", h.source(8, 0, 1), -2);
        due("source(0, -1, 1)", h.source(0, -1, 1), -2);
        due("source(0, 0, 1441)", h.source(0, 0, 1441), -2);
        due("source(0, 5, 5)", h.source(0, 5, 5), -2);
        due("source(0, 6, 5)", h.source(0, 6, 5), -2);
        due("source(0, 1440, 1440)", h.source(0, 1440, 1440), -2);
        h.order(2, 1, 0);
        due("refusals change nothing", h.night(10), 0);
        due("source(7, 1439, 1440)", h.source(7, 1439, 1440), 1);
        due("source(0, 1, 2)", h.source(0, 1, 2), 1);
        due("not up", h.night(10), 1);
        due("told anew", h.source(0, 0, 1), 1);
        due("up", h.night(10), 0);
    }

    private static void order() {
        promise = 27;
        DishHouse h = new DishHouse();
        int[][] bad = {
            {-1, 0, 0}, {6, 0, 0}, {0, -1, 0}, {0, 601, 0}, {0, 1, 1}, {1, -1, 0}, {1, 360, 0}, {1, 0, 1},
            {2, 0, 0}, {2, 601, 0}, {2, 1, -1}, {2, 1, 8}, {3, 0, 1}, {3, -1, 1}, {4, 0, 0}, {4, 601, 0},
            {4, 1, 1}, {5, 1, 0}, {5, 0, 1}
        };
        for (int[] o : bad) due("order(" + o[0] + ", " + o[1] + ", " + o[2] + ")", h.order(o[0], o[1], o[2]), -2);
        due("count(4)", h.count(4), 0);
        int[][] good = {
            {0, 0, 0}, {0, 600, 0}, {1, 0, 0}, {1, 359, 0}, {2, 1, 0}, {2, 600, 7}, {4, 1, 0}, {4, 600, 0}, {5, 0, 0},
            {3, 0, 1}, {3, 9, 50}
        };
        for (int n = 0; n < good.length; n++) due("order", h.order(good[n][0], good[n][1], good[n][2]), n);
        due("a is its own number", h.order(3, 11, 1), -2);
        due("no times", h.order(3, 0, 0), -2);
        due("51 times", h.order(3, 0, 51), -2);
        for (int n = 11; n < 60; n++) due("order", h.order(0, 0, 0), n);
        due("FULL", h.order(0, 0, 0), -3);
        due("BAD ahead of FULL", h.order(0, 601, 0), -2);
        due("FULL", h.order(3, 59, 1), -3);
        due("BAD ahead of FULL", h.order(3, 60, 1), -2);
    }

    private static void wipe() {
        promise = 28;
        DishHouse h = new DishHouse();
        due("wipe()", h.wipe(), 0);
        h.order(0, 5, 0);
        h.order(3, 0, 1);
        h.night(100);
        due("wipe()", h.wipe(), 2);
        due("count(4)", h.count(4), 0);
        due("what is told stays", h.told(0), 10);
        due("numbers from 0 on", h.order(0, 1, 0), 0);
        due("a repeat before it is none", h.order(3, 1, 1), -2);
        due("night", h.night(100), 0);
        due("told(0)", h.told(0), 1);
    }

    private static void nightEnds() {
        promise = 29;
        DishHouse h = new DishHouse();
        due("night(-1)", h.night(-1), -2);
        due("night(100001)", h.night(100001), -2);
        due("no orders", h.night(0), 0);
        h.order(0, 10, 0);
        h.order(2, 5, 3);
        h.order(0, 0, 0);
        due("just at the minute", h.night(15), 0);
        due("told(3)", h.told(3), 3);
        due("above it", h.night(14), 2);
        due("told(0)", h.told(0), 10);
        due("told(2)", h.told(2), 0);
        due("told(3)", h.told(3), 1);
        due("told(4)", h.told(4), 1);
        h.source(3, 0, 14);
        due("LATE ahead of CLASH", h.night(14), 2);
        due("CLASH", h.night(15), 1);
        due("told(4)", h.told(4), 1);
        due("not done", h.told(2), 0);
        due("BAD", h.night(-1), -2);
        due("what is told stays", h.told(4), 1);
        h.wipe();
        h.order(0, 0, 0);
        h.order(3, 0, 50);
        for (int n = 2; n < 60; n++) h.order(0, 0, 0);
        due("behind the last", h.night(0), 0);
        due("told(3)", h.told(3), 102 + 58);
        exactlySpent();
    }

    /** 2000 orders that end behind the last one are not SPENT, one more is. */
    private static void exactlySpent() {
        DishHouse h = new DishHouse();
        h.order(0, 0, 0);
        h.order(3, 0, 50);
        h.order(3, 0, 18);
        due("night", h.night(0), 0);
        due("told(3)", h.told(3), 19 * 102 + 19);
        for (int n = 3; n < 46; n++) h.order(0, 0, 0);
        due("2000", h.night(0), 0);
        due("told(3)", h.told(3), 2000);
        due("told(4)", h.told(4), -1);
        h.source(2, 1, 2);
        h.order(2, 600, 2);
        due("SPENT ahead of LATE and CLASH", h.night(0), 3);
        due("told(3)", h.told(3), 2000);
        due("told(4)", h.told(4), 46);
    }

    private static void nightTurns() {
        promise = 29;
        int[][] turns = {{0, 0}, {1, 1}, {6, 1}, {7, 2}, {180, 30}, {181, 30}, {186, 29}, {354, 1}, {359, 1}, {353, 2}};
        for (int[] t : turns) {
            DishHouse h = new DishHouse();
            h.order(1, t[0], 0);
            due("night", h.night(1000), 0);
            due("to " + t[0], h.told(0), t[1]);
            due("told(5)", h.told(5), t[1]);
            due("told(1)", h.told(1), t[0]);
            h.order(5, 0, 0);
            due("night", h.night(1000), 0);
            due("and back", h.told(5), 2 * t[1]);
            due("told(1)", h.told(1), 0);
            if (t[1] > 0) {
                due("LATE", h.night(2 * t[1] - 1), 2);
                due("not done", h.told(1), t[0]);
                due("not done", h.told(5), t[1]);
            }
        }
        DishHouse h = new DishHouse();
        int[] goals = {100, 130, 350, 20, 200, 19};
        int[] minutes = {17, 5, 24, 5, 30, 30};
        int sum = 0;
        for (int n = 0; n < goals.length; n++) {
            h.order(1, goals[n], 0);
            sum += minutes[n];
            due("night", h.night(1000), 0);
            due("from goal to goal " + n, h.told(5), sum);
        }
    }

    private static void nightSources() {
        promise = 29;
        DishHouse h = new DishHouse();
        h.source(0, 100, 200);
        h.order(0, 100, 0);
        h.order(2, 100, 0);
        due("from its rise to its set", h.night(1000), 0);
        h.wipe();
        h.order(0, 99, 0);
        h.order(2, 2, 0);
        due("before its rise", h.night(1000), 1);
        h.wipe();
        h.order(0, 101, 0);
        h.order(2, 100, 0);
        due("over its set", h.night(1000), 1);
        h.wipe();
        h.order(0, 200, 0);
        h.order(2, 1, 0);
        due("at its set", h.night(1000), 1);
        h.wipe();
        for (int n = 0; n < 2; n++) h.order(0, 600, 0);
        h.order(0, 340, 0);
        h.order(2, 100, 0);
        due("again each 1440", h.night(10000), 0);
        due("told(0)", h.told(0), 1640);
        h.source(0, 0, 1440);
        h.wipe();
        for (int n = 0; n < 6; n++) h.order(2, 500, 0);
        due("up all day", h.night(10000), 0);
        h.source(0, 0, 1439);
        due("all day but a minute", h.night(10000), 1);
        due("told(4)", h.told(4), 2);
        h.source(0, 1, 1440);
        due("all day but the first minute", h.night(10000), 1);
        due("told(4)", h.told(4), 0);
        h.wipe();
        h.order(0, 1, 0);
        h.order(2, 439, 0);
        h.order(2, 600, 0);
        h.order(2, 401, 0);
        due("over the day's end", h.night(10000), 1);
        due("told(4)", h.told(4), 3);
    }

    private static void nightStorms() {
        promise = 29;
        DishHouse h = new DishHouse();
        h.order(4, 30, 0);
        h.order(2, 10, 1);
        h.order(4, 5, 0);
        h.order(2, 15, 2);
        h.order(2, 10, 3);
        due("a storm takes no time", h.night(35), 0);
        due("told(0)", h.told(0), 35);
        due("told(11)", h.told(11), 0);
        due("the storm within ends with that around it", h.told(12), 0);
        due("from its end on", h.told(13), 5);
        due("told(2)", h.told(2), 5);
        h.order(4, 600, 0);
        due("it may end above the minute", h.night(35), 0);
        h.source(1, 50, 60);
        due("in a storm a source must be up too", h.night(35), 1);
        h.wipe();
        h.order(2, 5, 0);
        due("a new run has no storm", h.night(5), 0);
        due("told(2)", h.told(2), 5);
        h.wipe();
        h.order(4, 3, 0);
        h.order(4, 8, 0);
        h.order(2, 10, 0);
        due("the later end counts", h.night(10), 0);
        due("told(10)", h.told(10), 2);
    }

    private static void nightRepeats() {
        promise = 29;
        DishHouse h = new DishHouse();
        h.order(0, 1, 0);
        h.order(0, 10, 0);
        h.order(3, 1, 2);
        h.order(0, 100, 0);
        h.order(3, 0, 1);
        due("repeats within one another", h.night(1000), 0);
        due("told(0)", h.told(0), 2 * (1 + 30 + 100));
        due("told(3)", h.told(3), 2 * (1 + 3 + 3 + 1) + 2);
        due("each run begins anew", h.night(200), 2);
        due("told(4)", h.told(4), 3);
        due("night", h.night(1000), 0);
        due("told(0)", h.told(0), 262);
        h.wipe();
        h.order(0, 1, 0);
        h.order(3, 0, 1);
        h.order(3, 1, 2);
        due("into a repeat", h.night(1000), 0);
        due("told(0)", h.told(0), 4);
        due("told(3)", h.told(3), 4 + 6 + 3);
    }

    private static void told() {
        promise = 30;
        DishHouse h = new DishHouse();
        for (int what = -3; what <= 20; what++) {
            boolean fits = what >= 0 && what <= 5 || what >= 10 && what <= 17;
            due("told(" + what + ")", h.told(what), !fits ? -2 : what == 4 ? -1 : 0);
        }
        due("told(least)", h.told(Integer.MIN_VALUE), -2);
        h.order(1, 12, 0);
        h.order(2, 7, 0);
        h.order(2, 9, 7);
        h.order(2, 2, 0);
        h.order(0, 600, 0);
        due("night", h.night(100), 2);
        int[] want = {20, 12, 18, 4, 4, 2};
        for (int what = 0; what < 6; what++) due("told(" + what + ")", h.told(what), want[what]);
        due("told(10)", h.told(10), 9);
        due("told(11)", h.told(11), 0);
        due("told(17)", h.told(17), 9);
        due("night", h.night(620), 0);
        due("told(4)", h.told(4), -1);
    }

    private static void count() {
        promise = 31;
        DishHouse h = dishes(3, 2);
        due("count(-1)", h.count(-1), -2);
        due("count(7)", h.count(7), -2);
        h.flag(0, 0, 0);
        h.flag(1, 0, 0);
        for (int n = 0; n < 4; n++) h.point(n, 0, 100);
        for (int n = 0; n < 5; n++) h.order(5, 0, 0);
        h.board(1);
        h.take(10, 1);
        h.window(0, 0, 2, 1);
        h.lose(2);
        h.lose(2);
        int[] want = {3, 2, 4, 1, 5, 6, 1};
        for (int what = 0; what < 7; what++) due("count(" + what + ")", h.count(what), want[what]);
        h.put(0, 2, 5, 0);
        due("the latest", h.count(6), 2);
        h.put(0, 2, 0, 0);
        due("it stays", h.count(6), 2);
    }

    private static void digest() {
        promise = 32;
        DishHouse h = new DishHouse();
        long empty = 17;
        for (int n = 0; n < 5; n++) empty *= 31;
        empty = empty * 31 + 256;
        for (int c = 0; c < 256; c++) empty *= 31;
        due("of a new object", h.digest(), empty);
        for (int d = 0; d < 3; d++) {
            h.dish(d, 2 * d);
            h.reel(d, 2, 5 + d);
            h.put(d, 2, d, 3);
            h.put(d, 2, d + 1, 4);
        }
        h.flag(0, 0, 0);
        h.point(1, 2, 3);
        h.order(5, 0, 0);
        h.board(0);
        h.take(20, 2);
        h.window(0, 0, 1, 1);
        h.tune(2, 1, 3);
        long d = 17;
        for (int what = 0; what <= 5; what++) d = 31 * d + h.count(what);
        int[][] pairs = {{0, 1}, {0, 2}, {1, 2}};
        for (int[] p : pairs) {
            d = 31 * d + h.ticks(p[0], p[1]);
            d = 31 * d + h.product(p[0], p[1]);
        }
        for (int y = 0; y < 16; y++) {
            for (int x = 0; x < 16; x++) d = 31 * d + h.at(x, y);
        }
        due("digest", h.digest(), d);
        h.reel(0, 0, -1);
        due("a finding does not count", h.digest(), d);
    }
}
