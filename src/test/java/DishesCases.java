import java.util.function.Supplier;

/** Promises 1 to 10 and "Terms" of dishes, reels, findings and flags: each boundary case by itself. */
public final class DishesCases extends Cases {
    private static final Supplier<DishHouse> NEW = DishHouse::new;
    private static final Supplier<DishHouse> HOUSE = Cases::furnished;

    public static void main(String[] args) {
        newObject();
        dishAccepted();
        dishRefused();
        tuneAccepted();
        tuneRefused();
        reelAccepted();
        reelRefused();
        lose();
        putAccepted();
        putBits();
        putRefused();
        getAccepted();
        getRefused();
        copyAccepted();
        copyUnlikeLong();
        copyOntoItself();
        copyRefused();
        flagAccepted();
        flagRefused();
        unflag();
        samples();
        end("DishesCases");
    }

    private static void newObject() {
        answers("promise 1 new object: no dishes are counted", NEW, h -> h.count(0), 0);
        answers("promise 1 new object: there is no dish 0", NEW, h -> h.ticks(0, 0), BAD);
        answers("promise 1 new object: no flags are counted", NEW, h -> h.count(1), 0);
        answers("promise 1 new object: there is no flag to be taken", NEW, h -> h.unflag(), NOT);
        answers("promise 1 new object: no points are counted", NEW, h -> h.count(2), 0);
        answers("promise 1 new object: there is no point to be put out", NEW, h -> h.dark(), 0);
        answers("promise 1 new object: no parts are counted", NEW, h -> h.count(3), 0);
        answers("promise 1 new object: there is no part to be put back", NEW, h -> h.back(), NOT);
        answers("promise 1 new object: no orders are counted", NEW, h -> h.count(4), 0);
        answers("promise 1 new object: there is no order to be wiped", NEW, h -> h.wipe(), 0);
        answers("promise 1 new object: the window is all", NEW, h -> h.count(5), 256);
        answers("promise 1 new object: there is no finding", NEW, h -> h.count(6), 0);
        answers("promise 1 new object: the peak is cell 0", NEW, h -> h.peak(), 0);
        test("promise 1 new object: the board is 0 at each cell", () -> {
            DishHouse h = new DishHouse();
            for (int c = 0; c < 256; c++) due("at cell " + c, h.at(c % 16, c / 16), 0);
        });
        test("promise 1 new object: the kept beam is 0 until a board is made, whatever the beam is", () -> {
            DishHouse h = spaced(1, 0);
            due("beam(0, 0)", h.beam(0, 0), 1000);
            due("take(100, 50)", h.take(100, 50), 0);
            due("at(0, 0)", h.at(0, 0), 0);
        });
        test("promise 1 new object: no source rises, all are always up", () -> {
            for (int s = 0; s < 8; s++) {
                DishHouse h = new DishHouse();
                for (int n = 0; n < 5; n++) h.order(2, 600, s);
                due("night of source " + s, h.night(3000), 0);
            }
        });
    }

    private static void dishAccepted() {
        answers("promise 2 dish: x -100 is told", NEW, h -> h.dish(-100, 0), 0);
        answers("promise 2 dish: x 100 is told", NEW, h -> h.dish(100, 0), 0);
        answers("promise 2 dish: y -100 is told", NEW, h -> h.dish(0, -100), 0);
        answers("promise 2 dish: y 100 is told", NEW, h -> h.dish(0, 100), 0);
        test("promise 2 dish: numbers are 0 .. 5", () -> {
            DishHouse h = new DishHouse();
            for (int d = 0; d < 6; d++) due("dish", h.dish(d, d), d);
            due("count(0)", h.count(0), 6);
        });
        test("promise 2 dish: two may stand at one place", () -> {
            DishHouse h = new DishHouse();
            h.dish(7, 7);
            due("dish(7, 7)", h.dish(7, 7), 1);
        });
        test("promise 2 dish: the farthest places are kept as they are", () -> {
            // 200 is 8 modulo 16
            DishHouse h = spaced(0, 0);
            h.dish(-100, 99);
            h.dish(100, -99);
            h.lose(0);
            h.reel(2, INTS, 1);
            h.reel(3, INTS, 1);
            h.lose(1);
            due("beam(1, 0)", h.beam(1, 0), WAVE[200 % 16]);
            due("beam(0, 1)", h.beam(0, 1), WAVE[198 % 16]);
        });
        answers("terms 1 reel: it is lost at first", () -> bare(1), h -> h.lose(0), -10 - NULL);
        test("terms 1 delay: it is 0 at first", () -> {
            DishHouse h = dishes(2, 3);
            fill(h, 0, 2, 0, 0);
            fill(h, 1, 5, 7, 11);
            due("product(0, 1)", h.product(0, 1), 10);
        });
        test("terms 1 gain: it is 1 at first", () -> {
            DishHouse h = dishes(1, 1);
            fill(h, 0, 3);
            due("product(0, 0)", h.product(0, 0), 9);
        });
    }

    private static DishHouse bare(int dishes) {
        DishHouse h = new DishHouse();
        for (int d = 0; d < dishes; d++) h.dish(d, 0);
        return h;
    }

    private static DishHouse sixDishes() {
        DishHouse h = furnished();
        h.dish(-8, 9);
        h.reel(5, INTS, 4);
        return h;
    }

    private static void dishRefused() {
        refused("promise 2 dish: x -101 is BAD", HOUSE, h -> h.dish(-101, 0), BAD);
        refused("promise 2 dish: x 101 is BAD", HOUSE, h -> h.dish(101, 0), BAD);
        refused("promise 2 dish: y -101 is BAD", HOUSE, h -> h.dish(0, -101), BAD);
        refused("promise 2 dish: y 101 is BAD", HOUSE, h -> h.dish(0, 101), BAD);
        refused("promise 2 dish: x the least int is BAD", HOUSE, h -> h.dish(LEAST_INT, 0), BAD);
        refused("promise 2 dish: y the greatest int is BAD", HOUSE, h -> h.dish(0, MOST_INT), BAD);
        refused("promise 2 dish: a seventh is FULL", DishesCases::sixDishes, h -> h.dish(0, 0), FULL);
        refused("promise 2 dish: a seventh at a place not told is BAD ahead of FULL", DishesCases::sixDishes,
                h -> h.dish(0, 101), BAD);
        test("terms 1 dishes: number 5 of six is one, number 6 is none", () -> {
            DishHouse h = sixDishes();
            due("lose(6)", h.lose(6), BAD);
            due("lose(5)", h.lose(5), 4);
        });
    }

    /** A dish 0 with an item 1 at the delay to be seen and a dish 1 with an item 1 at 0. */
    private static DishHouse delayed(int delay, int gain) {
        DishHouse h = dishes(2, 31);
        if (delay < 31) h.put(0, INTS, delay, 1);
        h.put(1, INTS, 0, 1);
        due("tune", h.tune(0, delay, gain), 1);
        return h;
    }

    private static void tuneAccepted() {
        answers("promise 3 tune: delay 0 is told", () -> delayed(0, 1), h -> h.product(0, 1), 1);
        answers("promise 3 tune: delay 30 is told", () -> delayed(30, 1), h -> h.product(0, 1), 1);
        answers("promise 3 tune: gain -9 is told", () -> delayed(0, -9), h -> h.product(0, 1), -9);
        answers("promise 3 tune: gain -1 is told", () -> delayed(0, -1), h -> h.product(0, 1), -1);
        answers("promise 3 tune: gain 1 is told", () -> delayed(3, 1), h -> h.product(0, 1), 1);
        answers("promise 3 tune: gain 9 is told", () -> delayed(0, 9), h -> h.product(0, 1), 9);
        test("promise 3 tune: a lost reel is no hindrance, and the tuning stays for the next one", () -> {
            DishHouse h = bare(1);
            due("tune", h.tune(0, 1, 3), 1);
            h.reel(0, INTS, 3);
            fill(h, 0, 5, 1, 1);
            due("product(0, 0)", h.product(0, 0), 18);
        });
        test("promise 3 tune: the other dishes stay as they are", () -> {
            DishHouse h = dishes(3, 2);
            for (int d = 0; d < 3; d++) fill(h, d, 1, 4);
            h.tune(1, 1, 5);
            due("product(0, 0)", h.product(0, 0), 17);
            due("product(2, 2)", h.product(2, 2), 17);
            due("product(1, 1)", h.product(1, 1), 16 * 25);
        });
    }

    private static void tuneRefused() {
        refused("promise 3 tune: dish -1 is BAD", HOUSE, h -> h.tune(-1, 0, 1), BAD);
        refused("promise 3 tune: the dish behind the last is BAD", HOUSE, h -> h.tune(5, 0, 1), BAD);
        refused("promise 3 tune: dish 6 of six is BAD", DishesCases::sixDishes, h -> h.tune(6, 0, 1), BAD);
        refused("promise 3 tune: delay -1 is BAD", HOUSE, h -> h.tune(0, -1, 1), BAD);
        refused("promise 3 tune: delay 31 is BAD", HOUSE, h -> h.tune(0, 31, 1), BAD);
        refused("promise 3 tune: gain -10 is BAD, the delay stays too", HOUSE, h -> h.tune(0, 3, -10), BAD);
        refused("promise 3 tune: gain 0 is BAD", HOUSE, h -> h.tune(0, 3, 0), BAD);
        refused("promise 3 tune: gain 10 is BAD", HOUSE, h -> h.tune(0, 3, 10), BAD);
        answers("promise 3 tune: there is no dish in a new object", NEW, h -> h.tune(0, 0, 1), BAD);
    }

    private static void reelAccepted() {
        answers("promise 4 reel: 0 items are told", () -> bare(1), h -> h.reel(0, INTS, 0), 0);
        answers("promise 4 reel: 1 item is told", () -> bare(1), h -> h.reel(0, INTS, 1), 1);
        answers("promise 4 reel: 100 items are told", () -> bare(1), h -> h.reel(0, INTS, 100), 100);
        answers("promise 4 reel: form 0 is told", () -> bare(1), h -> h.reel(0, BYTES, 9), 9);
        answers("promise 4 reel: form 1 is told", () -> bare(1), h -> h.reel(0, SHORTS, 9), 9);
        answers("promise 4 reel: form 2 is told", () -> bare(1), h -> h.reel(0, INTS, 9), 9);
        test("promise 4 reel: 0 items are no lost reel", () -> {
            DishHouse h = bare(1);
            h.reel(0, INTS, 0);
            due("put", h.put(0, INTS, 0, 1), -10 - INDEX);
            due("lose", h.lose(0), 0);
        });
        test("terms 1 reel: the items are 0 at first, all hundred", () -> {
            DishHouse h = bare(1);
            h.reel(0, INTS, 100);
            for (int i = 0; i < 100; i++) due("item " + i, h.get(0, INTS, i), 0);
        });
        test("promise 4 reel: a new row has nothing of the old one, also where it is as long", () -> {
            DishHouse h = dishes(1, 100);
            fillAll(h, 0, 100, 9);
            h.reel(0, INTS, 100);
            for (int i = 0; i < 100; i++) due("item " + i, h.get(0, INTS, i), 0);
        });
        test("promise 4 reel: a short row between two long ones brings nothing back", () -> {
            DishHouse h = dishes(1, 3);
            fill(h, 0, 5, 6, 7);
            h.reel(0, INTS, 1);
            h.reel(0, INTS, 3);
            for (int i = 0; i < 3; i++) due("item " + i, h.get(0, INTS, i), 0);
        });
        test("promise 4 reel: a lost one brings nothing back", () -> {
            DishHouse h = dishes(1, 1);
            fill(h, 0, 5);
            h.lose(0);
            h.reel(0, INTS, 1);
            due("item 0", h.get(0, INTS, 0), 0);
        });
        test("promise 4 reel: a new row has the new form", () -> {
            DishHouse h = dishes(1, 2);
            h.reel(0, BYTES, 2);
            due("put as ints", h.put(0, INTS, 0, 1), -10 - CAST);
            due("put as bytes", h.put(0, BYTES, 0, 1), 1);
        });
        test("promise 4 reel: delay and gain stay", () -> {
            DishHouse h = dishes(1, 2);
            h.tune(0, 1, 3);
            h.reel(0, INTS, 4);
            fill(h, 0, 9, 1, 0, 2);
            due("product(0, 0)", h.product(0, 0), 45);
        });
    }

    private static void reelRefused() {
        refused("promise 4 reel: dish -1 is BAD", HOUSE, h -> h.reel(-1, INTS, 5), BAD);
        refused("promise 4 reel: the dish behind the last is BAD", HOUSE, h -> h.reel(5, INTS, 5), BAD);
        refused("promise 4 reel: form -1 is BAD", HOUSE, h -> h.reel(0, -1, 5), BAD);
        refused("promise 4 reel: form 3 is BAD", HOUSE, h -> h.reel(0, 3, 5), BAD);
        refused("promise 4 reel: 101 items are BAD", HOUSE, h -> h.reel(0, INTS, 101), BAD);
        refused("promise 4 reel: as many as the greatest int are BAD", HOUSE, h -> h.reel(0, INTS, MOST_INT), BAD);
        refused("promise 4 reel: BAD of the dish ahead of SIZE", HOUSE, h -> h.reel(5, INTS, -1), BAD);
        refused("promise 4 reel: BAD of the form ahead of SIZE", HOUSE, h -> h.reel(0, 3, -1), BAD);
        found("promise 4 reel: -1 items are the finding SIZE", HOUSE, h -> h.reel(0, INTS, -1), SIZE);
        found("promise 4 reel: as many as the least int are SIZE", HOUSE, h -> h.reel(0, INTS, LEAST_INT), SIZE);
        found("promise 4 reel: SIZE with another form leaves the form", HOUSE, h -> h.reel(1, BYTES, -1), SIZE);
        found("promise 4 reel: SIZE leaves a lost one lost", HOUSE, h -> h.reel(3, INTS, -1), SIZE);
    }

    private static void lose() {
        answers("promise 5 lose: a reel of 100 had 100", () -> dishes(1, 100), h -> h.lose(0), 100);
        answers("promise 5 lose: a reel of 1 had 1", () -> dishes(1, 1), h -> h.lose(0), 1);
        answers("promise 5 lose: an empty reel had 0", () -> dishes(1, 0), h -> h.lose(0), 0);
        test("promise 5 lose: no tick counts then, and the items are not there", () -> {
            DishHouse h = dishes(2, 5);
            h.lose(0);
            due("ticks(0, 1)", h.ticks(0, 1), 0);
            due("ticks(0, 0)", h.ticks(0, 0), 0);
            due("ticks(1, 1)", h.ticks(1, 1), 5);
            due("put", h.put(0, INTS, 0, 1), -10 - NULL);
        });
        test("promise 5 lose: delay and gain stay", () -> {
            DishHouse h = dishes(1, 2);
            h.tune(0, 1, 3);
            h.lose(0);
            h.reel(0, INTS, 2);
            fill(h, 0, 9, 2);
            due("product(0, 0)", h.product(0, 0), 36);
        });
        refused("promise 5 lose: dish -1 is BAD", HOUSE, h -> h.lose(-1), BAD);
        refused("promise 5 lose: the dish behind the last is BAD", HOUSE, h -> h.lose(5), BAD);
        found("promise 5 lose: a lost one is NULL", Cases::furnishedAfterSize, h -> h.lose(3), NULL);
        test("promise 5 lose: the second time is NULL", () -> {
            DishHouse h = dishes(1, 5);
            h.lose(0);
            due("lose(0)", h.lose(0), -10 - NULL);
        });
    }

    private static void putAccepted() {
        test("promise 6 put: item 0 is there, and no other is changed", () -> {
            DishHouse h = dishes(2, 3);
            due("put", h.put(0, INTS, 0, 7), 1);
            due("item 0", h.get(0, INTS, 0), 7);
            due("item 1", h.get(0, INTS, 1), 0);
            due("of the other dish", h.get(1, INTS, 0), 0);
        });
        test("promise 6 put: the last item is there", () -> {
            DishHouse h = dishes(1, 3);
            due("put", h.put(0, INTS, 2, 7), 1);
            due("item 2", h.get(0, INTS, 2), 7);
        });
        test("promise 6 put: item 99 of a hundred is there", () -> {
            DishHouse h = dishes(1, 100);
            due("put", h.put(0, INTS, 99, 7), 1);
            due("item 99", h.get(0, INTS, 99), 7);
        });
        test("promise 6 put: a flagged item is put all the same", () -> {
            DishHouse h = dishes(1, 3);
            h.flag(0, 0, 2);
            due("put", h.put(0, INTS, 1, 7), 1);
            due("item 1", h.get(0, INTS, 1), 7);
        });
    }

    private static void bits(String caseName, int form, int v, int want) {
        test("promise 6 put: " + caseName, () -> {
            DishHouse h = bare(1);
            h.reel(0, form, 1);
            due("put", h.put(0, form, 0, v), 1);
            due("get", h.get(0, form, 0), want);
        });
    }

    private static void putBits() {
        bits("127 is a byte", BYTES, 127, 127);
        bits("128 wraps to -128 as a byte", BYTES, 128, -128);
        bits("-128 is a byte", BYTES, -128, -128);
        bits("-129 wraps to 127 as a byte", BYTES, -129, 127);
        bits("255 wraps to -1 as a byte", BYTES, 255, -1);
        bits("256 wraps to 0 as a byte", BYTES, 256, 0);
        bits("the least int wraps to 0 as a byte", BYTES, LEAST_INT, 0);
        bits("32767 is a short", SHORTS, 32767, 32767);
        bits("32768 wraps to -32768 as a short", SHORTS, 32768, -32768);
        bits("-32768 is a short", SHORTS, -32768, -32768);
        bits("-32769 wraps to 32767 as a short", SHORTS, -32769, 32767);
        bits("65535 wraps to -1 as a short", SHORTS, 65535, -1);
        bits("65536 wraps to 0 as a short", SHORTS, 65536, 0);
        bits("the greatest int is an int", INTS, MOST_INT, MOST_INT);
        bits("the least int is an int", INTS, LEAST_INT, LEAST_INT);
    }

    private static void putRefused() {
        refused("promise 6 put: dish -1 is BAD", HOUSE, h -> h.put(-1, INTS, 0, 1), BAD);
        refused("promise 6 put: the dish behind the last is BAD", HOUSE, h -> h.put(5, INTS, 0, 1), BAD);
        refused("promise 6 put: form -1 is BAD", HOUSE, h -> h.put(1, -1, 0, 1), BAD);
        refused("promise 6 put: form 3 is BAD", HOUSE, h -> h.put(1, 3, 0, 1), BAD);
        refused("promise 6 put: BAD of the form ahead of NULL", Cases::furnishedAfterSize, h -> h.put(3, 3, 0, 1), BAD);
        found("promise 6 put: a lost reel is NULL", Cases::furnishedAfterSize, h -> h.put(3, INTS, 0, 1), NULL);
        found("promise 6 put: NULL ahead of CAST and INDEX, the form it had is gone", Cases::furnishedAfterSize,
                h -> h.put(3, BYTES, -1, 1), NULL);
        found("promise 6 put: ints treated as bytes are CAST", HOUSE, h -> h.put(1, BYTES, 0, 1), CAST);
        found("promise 6 put: ints treated as shorts are CAST", HOUSE, h -> h.put(1, SHORTS, 0, 1), CAST);
        found("promise 6 put: bytes treated as ints are CAST", HOUSE, h -> h.put(0, INTS, 0, 1), CAST);
        found("promise 6 put: shorts treated as bytes are CAST", HOUSE, h -> h.put(4, BYTES, 0, 1), CAST);
        found("promise 6 put: CAST ahead of INDEX", HOUSE, h -> h.put(1, BYTES, 8, 1), CAST);
        found("promise 6 put: item -1 is INDEX", HOUSE, h -> h.put(1, INTS, -1, 1), INDEX);
        found("promise 6 put: the item behind the last is INDEX", HOUSE, h -> h.put(1, INTS, 8, 1), INDEX);
        found("promise 6 put: the item of the greatest int is INDEX", HOUSE, h -> h.put(1, INTS, MOST_INT, 1), INDEX);
        found("promise 6 put: the item of the least int is INDEX", HOUSE, h -> h.put(1, INTS, LEAST_INT, 1), INDEX);
        answers("promise 6 put: an empty reel has no item 0", () -> dishes(1, 0), h -> h.put(0, INTS, 0, 1), -10 - INDEX);
        answers("promise 6 put: a hundred have no item 100", () -> dishes(1, 100), h -> h.put(0, INTS, 100, 1),
                -10 - INDEX);
    }

    private static void getAccepted() {
        answers("promise 7 get: item 0 is there", HOUSE, h -> h.get(1, INTS, 0), -100);
        answers("promise 7 get: the last item is there", HOUSE, h -> h.get(1, INTS, 7), 1800);
        answers("promise 7 get: a flagged item is there", HOUSE, h -> h.get(0, BYTES, 2), 5);
        test("promise 7 get: an item that is the least int is no finding", () -> {
            DishHouse h = dishes(1, 1);
            h.put(0, INTS, 0, LEAST_INT);
            due("get", h.get(0, INTS, 0), LEAST_INT);
            due("count(6)", h.count(6), 0);
        });
        test("promise 7 get: a get that is answered leaves the finding as it was", () -> {
            DishHouse h = furnished();
            h.get(1, INTS, 0);
            due("count(6)", h.count(6), NULL);
        });
    }

    private static void getRefused() {
        refused("promise 7 get: dish -1 is BAD, the least int", HOUSE, h -> h.get(-1, INTS, 0), LEAST_INT);
        refused("promise 7 get: the dish behind the last is BAD", HOUSE, h -> h.get(5, INTS, 0), LEAST_INT);
        refused("promise 7 get: form -1 is BAD", HOUSE, h -> h.get(1, -1, 0), LEAST_INT);
        refused("promise 7 get: form 3 is BAD", HOUSE, h -> h.get(1, 3, 0), LEAST_INT);
        refused("promise 7 get: BAD of the form ahead of NULL", Cases::furnishedAfterSize, h -> h.get(3, 3, 0), LEAST_INT);
        found("promise 7 get: a lost reel is NULL, the least int", Cases::furnishedAfterSize,
                h -> h.get(3, BYTES, 0), LEAST_INT, NULL);
        found("promise 7 get: NULL ahead of CAST and INDEX", Cases::furnishedAfterSize,
                h -> h.get(3, SHORTS, -1), LEAST_INT, NULL);
        found("promise 7 get: bytes treated as shorts are CAST, the least int", HOUSE,
                h -> h.get(0, SHORTS, 0), LEAST_INT, CAST);
        found("promise 7 get: CAST ahead of INDEX", HOUSE, h -> h.get(0, SHORTS, 6), LEAST_INT, CAST);
        found("promise 7 get: item -1 is INDEX, the least int", HOUSE, h -> h.get(1, INTS, -1), LEAST_INT, INDEX);
        found("promise 7 get: the item behind the last is INDEX", HOUSE, h -> h.get(1, INTS, 8), LEAST_INT, INDEX);
        found("promise 7 get: the item of the greatest int is INDEX", HOUSE,
                h -> h.get(1, INTS, MOST_INT), LEAST_INT, INDEX);
        answers("promise 7 get: an empty reel has no item 0", () -> dishes(1, 0), h -> h.get(0, INTS, 0), LEAST_INT);
        answers("promise 7 get: a hundred have no item 100", () -> dishes(1, 100), h -> h.get(0, INTS, 100), LEAST_INT);
    }

    /** Dishes 0 and 1 with ints 1 .. 5 and 11 .. 15; dish 2 with three shorts, dish 3 lost; the finding is SIZE. */
    private static DishHouse copied() {
        DishHouse h = dishes(4, 5);
        fill(h, 0, 1, 2, 3, 4, 5);
        fill(h, 1, 11, 12, 13, 14, 15);
        h.reel(2, SHORTS, 3);
        h.put(2, SHORTS, 0, 21);
        h.lose(3);
        h.reel(2, SHORTS, -1);
        return h;
    }

    private static void dueItems(DishHouse h, int dish, int... want) {
        for (int i = 0; i < want.length; i++) due("item " + i + " of " + dish, h.get(dish, INTS, i), want[i]);
    }

    private static void copies(String caseName, int i, int j, int n, int... want) {
        test("promise 8 copy: " + caseName, () -> {
            DishHouse h = copied();
            due("copy", h.copy(0, i, 1, j, n), 1);
            dueItems(h, 1, want);
            dueItems(h, 0, 1, 2, 3, 4, 5);
        });
    }

    private static void copyAccepted() {
        copies("all of a reel onto all of another", 0, 0, 5, 1, 2, 3, 4, 5);
        copies("the last item to the last", 4, 4, 1, 11, 12, 13, 14, 5);
        copies("the first item to the last", 0, 4, 1, 11, 12, 13, 14, 1);
        copies("the last item to the first", 4, 0, 1, 5, 12, 13, 14, 15);
        copies("just as many as there are behind i", 2, 1, 3, 11, 3, 4, 5, 15);
        copies("just as many as there is room for behind j", 1, 2, 3, 11, 12, 2, 3, 4);
        copies("no items from amid", 2, 2, 0, 11, 12, 13, 14, 15);
        copies("no items from just behind the last to just behind the last", 5, 5, 0, 11, 12, 13, 14, 15);
        answers("promise 8 copy: no items of an empty reel", () -> dishes(2, 0), h -> h.copy(0, 0, 1, 0, 0), 1);
        test("promise 8 copy: all hundred", () -> {
            DishHouse h = dishes(2, 100);
            for (int i = 0; i < 100; i++) h.put(0, INTS, i, i + 1);
            due("copy", h.copy(0, 0, 1, 0, 100), 1);
            for (int i = 0; i < 100; i++) due("item " + i, h.get(1, INTS, i), i + 1);
        });
        test("promise 8 copy: bytes onto bytes", () -> {
            DishHouse h = dishes(2, 0);
            h.reel(0, BYTES, 2);
            h.reel(1, BYTES, 3);
            h.put(0, BYTES, 1, -128);
            due("copy", h.copy(0, 0, 1, 1, 2), 1);
            due("get", h.get(1, BYTES, 2), -128);
        });
        test("promise 8 copy: flagged items are copied, flags stay where they are", () -> {
            DishHouse h = copied();
            h.flag(0, 0, 1);
            due("copy", h.copy(0, 0, 1, 0, 2), 1);
            dueItems(h, 1, 1, 2, 13, 14, 15);
            due("ticks(1, 1)", h.ticks(1, 1), 5);
        });
    }

    private static DishHouse unlikeLong(int first, int second) {
        DishHouse h = dishes(2, first);
        h.reel(1, INTS, second);
        return h;
    }

    private static void copyUnlikeLong() {
        answers("promise 8 copy: all of a short reel to the end of a long one", () -> unlikeLong(3, 9),
                h -> h.copy(0, 0, 1, 6, 3), 1);
        answers("promise 8 copy: to the end of a long one, one farther is INDEX", () -> unlikeLong(3, 9),
                h -> h.copy(0, 0, 1, 7, 3), -10 - INDEX);
        answers("promise 8 copy: of a short reel one more is INDEX, though the other has room", () -> unlikeLong(3, 9),
                h -> h.copy(0, 0, 1, 0, 4), -10 - INDEX);
        answers("promise 8 copy: the end of a long reel to all of a short one", () -> unlikeLong(9, 3),
                h -> h.copy(0, 6, 1, 0, 3), 1);
        answers("promise 8 copy: the end of a long reel, one farther is INDEX", () -> unlikeLong(9, 3),
                h -> h.copy(0, 7, 1, 0, 3), -10 - INDEX);
        answers("promise 8 copy: to a short reel one more is INDEX, though the other has them", () -> unlikeLong(9, 3),
                h -> h.copy(0, 0, 1, 0, 4), -10 - INDEX);
        answers("promise 8 copy: an empty reel has none for a full one", () -> unlikeLong(0, 9),
                h -> h.copy(0, 0, 1, 0, 1), -10 - INDEX);
        answers("promise 8 copy: an empty reel has no room for any", () -> unlikeLong(9, 0),
                h -> h.copy(0, 0, 1, 0, 1), -10 - INDEX);
    }

    private static void copiesOntoItself(String caseName, int i, int j, int n, int... want) {
        test("promise 8 copy: onto itself, " + caseName, () -> {
            DishHouse h = copied();
            due("copy", h.copy(0, i, 0, j, n), 1);
            dueItems(h, 0, want);
        });
    }

    private static void copyOntoItself() {
        copiesOntoItself("by one upward, as they were", 0, 1, 4, 1, 1, 2, 3, 4);
        copiesOntoItself("by one downward, as they were", 1, 0, 4, 2, 3, 4, 5, 5);
        copiesOntoItself("by two upward", 0, 2, 3, 1, 2, 1, 2, 3);
        copiesOntoItself("at the same place", 1, 1, 3, 1, 2, 3, 4, 5);
        copiesOntoItself("side by side", 0, 2, 2, 1, 2, 1, 2, 5);
    }

    private static void copyRefused() {
        Supplier<DishHouse> house = DishesCases::copied;
        refused("promise 8 copy: d -1 is BAD", house, h -> h.copy(-1, 0, 0, 0, 1), BAD);
        refused("promise 8 copy: d behind the last is BAD", house, h -> h.copy(4, 0, 0, 0, 1), BAD);
        refused("promise 8 copy: e -1 is BAD", house, h -> h.copy(0, 0, -1, 0, 1), BAD);
        refused("promise 8 copy: e behind the last is BAD", house, h -> h.copy(0, 0, 4, 0, 1), BAD);
        refused("promise 8 copy: BAD of e ahead of NULL of d", house, h -> h.copy(3, 0, 4, 0, 1), BAD);
        found("promise 8 copy: d lost is NULL", house, h -> h.copy(3, 0, 0, 0, 1), NULL);
        found("promise 8 copy: e lost is NULL", house, h -> h.copy(0, 0, 3, 0, 1), NULL);
        found("promise 8 copy: a lost one onto itself is NULL, also for no items", house, h -> h.copy(3, 0, 3, 0, 0), NULL);
        found("promise 8 copy: NULL of e ahead of STORE and INDEX", house, h -> h.copy(2, -1, 3, -1, -1), NULL);
        found("promise 8 copy: NULL of d ahead of INDEX of e", house, h -> h.copy(3, 0, 0, 9, 1), NULL);
        found("promise 8 copy: ints onto shorts are STORE", house, h -> h.copy(0, 0, 2, 0, 1), STORE);
        found("promise 8 copy: shorts onto ints are STORE", house, h -> h.copy(2, 0, 0, 0, 1), STORE);
        found("promise 8 copy: STORE also for no items", house, h -> h.copy(0, 0, 2, 0, 0), STORE);
        found("promise 8 copy: STORE ahead of INDEX", house, h -> h.copy(0, -1, 2, 9, -1), STORE);
        found("promise 8 copy: i -1 is INDEX", house, h -> h.copy(0, -1, 1, 0, 1), INDEX);
        found("promise 8 copy: i -1 is INDEX, also for no items", house, h -> h.copy(0, -1, 1, 0, 0), INDEX);
        found("promise 8 copy: j -1 is INDEX", house, h -> h.copy(0, 0, 1, -1, 1), INDEX);
        found("promise 8 copy: j -1 is INDEX, also for no items", house, h -> h.copy(0, 0, 1, -1, 0), INDEX);
        found("promise 8 copy: n -1 is INDEX", house, h -> h.copy(0, 1, 1, 1, -1), INDEX);
        found("promise 8 copy: n the least int is INDEX", house, h -> h.copy(0, 1, 1, 1, LEAST_INT), INDEX);
        found("promise 8 copy: one more than are behind i is INDEX", house, h -> h.copy(0, 2, 1, 0, 4), INDEX);
        found("promise 8 copy: one more than there is room for behind j is INDEX", house,
                h -> h.copy(0, 0, 1, 2, 4), INDEX);
        found("promise 8 copy: one more than all is INDEX", house, h -> h.copy(0, 0, 1, 0, 6), INDEX);
        found("promise 8 copy: no items from farther than just behind the last are INDEX", house,
                h -> h.copy(0, 6, 1, 0, 0), INDEX);
        found("promise 8 copy: no items to farther than just behind the last are INDEX", house,
                h -> h.copy(0, 0, 1, 6, 0), INDEX);
        found("promise 8 copy: i and n that wrap when added are INDEX", house,
                h -> h.copy(0, 1, 1, 0, MOST_INT), INDEX);
        found("promise 8 copy: j and n that wrap when added are INDEX", house,
                h -> h.copy(0, 0, 1, MOST_INT, 1), INDEX);
        found("promise 8 copy: i the greatest int is INDEX", house, h -> h.copy(0, MOST_INT, 1, 0, 1), INDEX);
    }

    /** Dish 0 with 1, 2, 4 .. 256 and dish 1 with nine 1, so that a product tells which items count. */
    private static DishHouse powers() {
        DishHouse h = dishes(2, 9);
        for (int i = 0; i < 9; i++) {
            h.put(0, INTS, i, 1 << i);
            h.put(1, INTS, i, 1);
        }
        return h;
    }

    private static void flags(String caseName, int from, int to, int want) {
        test("promise 9 flag: " + caseName, () -> {
            DishHouse h = powers();
            due("flag", h.flag(0, from, to), 1);
            due("product(0, 1)", h.product(0, 1), want);
        });
    }

    private static void flagAccepted() {
        flags("of 3 to 5 the items 2 and 6 count, 3 and 5 do not", 3, 5, 511 - 8 - 16 - 32);
        flags("from to itself is one item", 4, 4, 511 - 16);
        flags("item 0 alone", 0, 0, 510);
        flags("from 0 to 99 is all", 0, 99, 0);
        flags("from the last on", 8, 99, 255);
        flags("items that are not there at all", 9, 99, 511);
        test("promise 9 flag: item 99 alone", () -> {
            DishHouse h = dishes(1, 100);
            due("flag", h.flag(0, 99, 99), 1);
            due("ticks(0, 0)", h.ticks(0, 0), 99);
        });
        test("promise 9 flag: it answers how many there are", () -> {
            DishHouse h = dishes(2, 1);
            for (int n = 1; n <= 40; n++) due("flag", h.flag(n % 2, 0, 0), n);
            due("count(1)", h.count(1), 40);
        });
        test("terms 1 flags: the fortieth is one", () -> {
            DishHouse h = dishes(1, 2);
            for (int n = 1; n < 40; n++) h.flag(0, 0, 0);
            due("flag", h.flag(0, 1, 1), 40);
            due("ticks(0, 0)", h.ticks(0, 0), 0);
        });
        test("terms 1 flags: they hold for their dish alone", () -> {
            DishHouse h = dishes(3, 5);
            h.flag(1, 0, 3);
            due("ticks(0, 2)", h.ticks(0, 2), 5);
            due("ticks(0, 1)", h.ticks(0, 1), 1);
        });
        test("terms 1 flags: items that come to be later are flagged", () -> {
            DishHouse h = dishes(1, 2);
            h.flag(0, 1, 5);
            h.reel(0, INTS, 10);
            due("ticks(0, 0)", h.ticks(0, 0), 5);
        });
        test("terms 1 flags: items of a lost reel are flagged for the next one", () -> {
            DishHouse h = bare(1);
            due("flag", h.flag(0, 0, 0), 1);
            h.reel(0, INTS, 3);
            due("ticks(0, 0)", h.ticks(0, 0), 2);
        });
        test("terms 1 flags: they stay when the reel is lost", () -> {
            DishHouse h = dishes(1, 3);
            h.flag(0, 0, 0);
            h.lose(0);
            due("count(1)", h.count(1), 1);
            h.reel(0, BYTES, 3);
            due("ticks(0, 0)", h.ticks(0, 0), 2);
        });
    }

    private static DishHouse fortyFlags() {
        DishHouse h = furnished();
        for (int n = 4; n <= 40; n++) h.flag(n % 2, n % 5, n % 5);
        return h;
    }

    private static void flagRefused() {
        refused("promise 9 flag: dish -1 is BAD", HOUSE, h -> h.flag(-1, 0, 0), BAD);
        refused("promise 9 flag: the dish behind the last is BAD", HOUSE, h -> h.flag(5, 0, 0), BAD);
        refused("promise 9 flag: from -1 is BAD", HOUSE, h -> h.flag(1, -1, 5), BAD);
        refused("promise 9 flag: from above to is BAD", HOUSE, h -> h.flag(1, 5, 4), BAD);
        refused("promise 9 flag: to 100 is BAD", HOUSE, h -> h.flag(1, 3, 100), BAD);
        refused("promise 9 flag: from and to 100 are BAD", HOUSE, h -> h.flag(1, 100, 100), BAD);
        refused("promise 9 flag: to -1 is BAD", HOUSE, h -> h.flag(1, -1, -1), BAD);
        refused("promise 9 flag: from the least int is BAD", HOUSE, h -> h.flag(1, LEAST_INT, 5), BAD);
        refused("promise 9 flag: to the greatest int is BAD", HOUSE, h -> h.flag(1, 3, MOST_INT), BAD);
        refused("promise 9 flag: a forty-first is FULL", DishesCases::fortyFlags, h -> h.flag(0, 0, 5), FULL);
        refused("promise 9 flag: a forty-first not as told is BAD ahead of FULL", DishesCases::fortyFlags,
                h -> h.flag(0, 6, 5), BAD);
        test("promise 9 flag: one more fits when one of forty is gone", () -> {
            DishHouse h = fortyFlags();
            h.unflag();
            due("flag", h.flag(0, 0, 5), 40);
        });
    }

    private static void unflag() {
        refused("promise 10 unflag: NOT where there is none", DishesCases::copied, h -> h.unflag(), NOT);
        refused("promise 10 unflag: NOT where all are gone", () -> {
            DishHouse h = copied();
            h.flag(0, 0, 0);
            h.unflag();
            return h;
        }, h -> h.unflag(), NOT);
        test("promise 10 unflag: the latest goes first, down to none", () -> {
            DishHouse h = powers();
            h.flag(0, 0, 0);
            h.flag(0, 1, 1);
            h.flag(1, 2, 2);
            due("unflag", h.unflag(), 2);
            due("product(0, 1)", h.product(0, 1), 511 - 1 - 2);
            due("unflag", h.unflag(), 1);
            due("product(0, 1)", h.product(0, 1), 511 - 1);
            due("unflag", h.unflag(), 0);
            due("product(0, 1)", h.product(0, 1), 511);
            due("count(1)", h.count(1), 0);
        });
        test("promise 10 unflag: its first and last items count again, those beside it are as they were", () -> {
            DishHouse h = powers();
            h.flag(0, 1, 1);
            h.flag(0, 7, 7);
            h.flag(0, 2, 6);
            h.unflag();
            due("product(0, 1)", h.product(0, 1), 511 - 2 - 128);
        });
        test("promise 10 unflag: what an earlier flag holds too stays flagged", () -> {
            DishHouse h = powers();
            h.flag(0, 2, 4);
            h.flag(0, 3, 5);
            h.unflag();
            due("product(0, 1)", h.product(0, 1), 511 - 4 - 8 - 16);
        });
        test("promise 10 unflag: one of two alike stays", () -> {
            DishHouse h = powers();
            h.flag(0, 3, 3);
            h.flag(0, 3, 3);
            h.unflag();
            due("product(0, 1)", h.product(0, 1), 511 - 8);
        });
        test("promise 10 unflag: forty are gone one after the other", () -> {
            DishHouse h = fortyFlags();
            for (int left = 39; left >= 0; left--) due("unflag", h.unflag(), left);
            due("unflag", h.unflag(), NOT);
            due("ticks(1, 1)", h.ticks(1, 1), 8);
        });
    }

    private static void sample(String caseName, int v, int want) {
        test("terms 1 sample: " + caseName, () -> {
            DishHouse h = dishes(2, 1);
            h.put(0, INTS, 0, v);
            h.put(1, INTS, 0, 1);
            due("product(0, 1)", h.product(0, 1), want);
            due("product(1, 0)", h.product(1, 0), want);
            due("the item itself is not cut", h.get(0, INTS, 0), v);
        });
    }

    private static void samples() {
        sample("499 is 499", 499, 499);
        sample("500 is 500", 500, 500);
        sample("501 is cut to 500", 501, 500);
        sample("the greatest int is cut to 500", MOST_INT, 500);
        sample("-499 is -499", -499, -499);
        sample("-500 is -500", -500, -500);
        sample("-501 is cut to -500", -501, -500);
        sample("the least int is cut to -500", LEAST_INT, -500);
        sample("0 is 0", 0, 0);
        answers("terms 1 finding: count(6) is 1 by NULL", () -> bare(1), h -> found(h, h.lose(0)), 1);
        answers("terms 1 finding: count(6) is 2 by INDEX", () -> dishes(1, 0), h -> found(h, h.put(0, INTS, 0, 0)), 2);
        answers("terms 1 finding: count(6) is 3 by CAST", () -> dishes(1, 0), h -> found(h, h.put(0, BYTES, 0, 0)), 3);
        answers("terms 1 finding: count(6) is 4 by STORE", DishesCases::copied, h -> found(h, h.copy(0, 0, 2, 0, 1)), 4);
        answers("terms 1 finding: count(6) is 5 by SIZE", () -> bare(1), h -> found(h, h.reel(0, BYTES, -1)), 5);
        test("terms 1 dishes: the 512th call of an object is answered as all others", () -> {
            DishHouse h = dishes(2, 1);
            for (int n = 4; n < 511; n++) h.put(n % 2, INTS, 0, n);
            due("product(0, 1)", h.product(0, 1), 500 * 500);
        });
    }

    private static long found(DishHouse h, int answer) {
        return answer == -10 - h.count(6) ? h.count(6) : answer;
    }
}
