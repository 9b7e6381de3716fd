import java.util.function.Supplier;

/** Promises 11 to 15 and "Terms" of ticks and products: each boundary case by itself. */
public final class PairsCases extends Cases {
    private static final Supplier<DishHouse> HOUSE = Cases::furnished;
    private static final Supplier<DishHouse> SIX = () -> dishes(6, 2);

    public static void main(String[] args) {
        ticksEnds();
        ticksDelays();
        ticksFlags();
        ticksRefused();
        productSums();
        productGains();
        productRefused();
        delayBest();
        delayWhat();
        delayTwice();
        delayRefused();
        threeSigns();
        threeRefused();
        fourSigns();
        fourGreat();
        fourRefused();
        end("PairsCases");
    }

    private static DishHouse reels(int first, int second) {
        DishHouse h = dishes(2, 0);
        h.reel(0, INTS, first);
        h.reel(1, INTS, second);
        return h;
    }

    private static DishHouse reels(int first, int firstDelay, int second, int secondDelay) {
        DishHouse h = reels(first, second);
        h.tune(0, firstDelay, 1);
        h.tune(1, secondDelay, 1);
        return h;
    }

    private static void ticksEnds() {
        answers("promise 11 ticks: empty reels have none", () -> reels(0, 0), h -> h.ticks(0, 1), 0);
        answers("promise 11 ticks: tick 0 counts", () -> reels(1, 1), h -> h.ticks(0, 1), 1);
        answers("promise 11 ticks: tick 99 counts", () -> reels(100, 100), h -> h.ticks(0, 1), 100);
        answers("promise 11 ticks: an empty reel beside a full one has none", () -> reels(0, 100), h -> h.ticks(0, 1), 0);
        answers("promise 11 ticks: the shorter first one tells", () -> reels(7, 9), h -> h.ticks(0, 1), 7);
        answers("promise 11 ticks: the shorter second one tells", () -> reels(9, 7), h -> h.ticks(0, 1), 7);
        answers("promise 11 ticks: one dish twice", () -> reels(9, 7), h -> h.ticks(0, 0), 9);
        answers("promise 11 ticks: the last of six dishes twice", SIX, h -> h.ticks(5, 5), 2);
        answers("promise 11 ticks: forms do not matter", () -> {
            DishHouse h = reels(9, 7);
            h.reel(0, BYTES, 4);
            return h;
        }, h -> h.ticks(0, 1), 4);
        answers("terms 1 tick: a first one lost has none", () -> {
            DishHouse h = reels(9, 7);
            h.lose(0);
            return h;
        }, h -> h.ticks(0, 1), 0);
        answers("terms 1 tick: a second one lost has none", () -> {
            DishHouse h = reels(9, 7);
            h.lose(1);
            return h;
        }, h -> h.ticks(0, 1), 0);
        answers("terms 1 tick: a lost one twice has none, and that is no finding", () -> {
            DishHouse h = reels(9, 7);
            h.lose(1);
            return h;
        }, h -> h.ticks(1, 1) + h.count(6), 0);
    }

    private static void ticksDelays() {
        answers("terms 1 tick: the last item at the greatest delay is there", () -> reels(31, 30, 9, 0),
                h -> h.ticks(0, 1), 1);
        answers("terms 1 tick: the item behind the last is not", () -> reels(30, 30, 9, 0), h -> h.ticks(0, 1), 0);
        answers("terms 1 tick: a delay far behind the last has none", () -> reels(3, 30, 9, 0), h -> h.ticks(0, 1), 0);
        answers("terms 1 tick: a second one's last item is there", () -> reels(9, 0, 31, 30), h -> h.ticks(0, 1), 1);
        answers("terms 1 tick: a second one's item behind the last is not", () -> reels(9, 0, 30, 30),
                h -> h.ticks(0, 1), 0);
        answers("terms 1 tick: each has its own delay, the first tells", () -> reels(10, 4, 10, 3), h -> h.ticks(0, 1), 6);
        answers("terms 1 tick: each has its own delay, the second tells", () -> reels(10, 3, 10, 4),
                h -> h.ticks(0, 1), 6);
        answers("terms 1 tick: asked the other way each still has its own", () -> reels(10, 3, 7, 4),
                h -> h.ticks(1, 0), 3);
        answers("terms 1 tick: a full reel at delay 1 has 99", () -> reels(100, 1, 100, 0), h -> h.ticks(0, 1), 99);
        answers("terms 1 tick: two full reels at delay 30 have 70", () -> reels(100, 30, 100, 30),
                h -> h.ticks(0, 1), 70);
        answers("terms 1 tick: one dish twice has its own delay twice", () -> reels(10, 3, 0, 0), h -> h.ticks(0, 0), 7);
    }

    private static DishHouse flagged(int dish, int from, int to, int firstDelay, int secondDelay) {
        DishHouse h = reels(10, firstDelay, 10, secondDelay);
        h.flag(dish, from, to);
        return h;
    }

    private static void ticksFlags() {
        answers("terms 1 tick: a flagged first one does not count", () -> flagged(0, 2, 4, 0, 0), h -> h.ticks(0, 1), 7);
        answers("terms 1 tick: a flagged second one does not count", () -> flagged(1, 2, 4, 0, 0),
                h -> h.ticks(0, 1), 7);
        answers("terms 1 tick: items are flagged, not ticks: one ahead of the delay is no tick",
                () -> flagged(0, 2, 2, 3, 0), h -> h.ticks(0, 1), 7);
        answers("terms 1 tick: the item just at the delay is tick 0", () -> flagged(0, 3, 3, 3, 0),
                h -> h.ticks(0, 1), 6);
        answers("terms 1 tick: a second one's item at its delay is tick 0", () -> flagged(1, 3, 3, 0, 3),
                h -> h.ticks(0, 1), 6);
        answers("terms 1 tick: the last item that is come to may be flagged", () -> flagged(0, 9, 9, 3, 0),
                h -> h.ticks(0, 1), 6);
        answers("terms 1 tick: an item that no tick comes to may be flagged", () -> flagged(1, 7, 9, 3, 0),
                h -> h.ticks(0, 1), 7);
        answers("terms 1 tick: all flagged", () -> flagged(0, 0, 99, 0, 0), h -> h.ticks(0, 1), 0);
        test("terms 1 tick: both flagged in one tick take it once", () -> {
            DishHouse h = reels(10, 10);
            h.flag(0, 3, 5);
            h.flag(1, 5, 6);
            due("ticks(0, 1)", h.ticks(0, 1), 6);
        });
    }

    private static void ticksRefused() {
        refused("promise 11 ticks: i -1 is BAD", HOUSE, h -> h.ticks(-1, 0), BAD);
        refused("promise 11 ticks: i behind the last is BAD", HOUSE, h -> h.ticks(5, 0), BAD);
        refused("promise 11 ticks: j -1 is BAD", HOUSE, h -> h.ticks(0, -1), BAD);
        refused("promise 11 ticks: j behind the last is BAD", HOUSE, h -> h.ticks(0, 5), BAD);
        answers("promise 11 ticks: i 6 of six is BAD", SIX, h -> h.ticks(6, 0), BAD);
        answers("promise 11 ticks: j 6 of six is BAD", SIX, h -> h.ticks(0, 6), BAD);
    }

    private static DishHouse sums(int[] first, int[] second) {
        DishHouse h = reels(first.length, second.length);
        fill(h, 0, first);
        fill(h, 1, second);
        return h;
    }

    private static void productSums() {
        int[] first = {2, -3, 5};
        int[] second = {7, 11, -13, 100};
        answers("promise 12 product: of empty reels is 0", () -> reels(0, 0), h -> h.product(0, 1), 0);
        answers("promise 12 product: a sum over all ticks that count", () -> sums(first, second),
                h -> h.product(0, 1), 14 - 33 - 65);
        answers("promise 12 product: the other way it is the same", () -> sums(first, second),
                h -> h.product(1, 0), 14 - 33 - 65);
        answers("promise 12 product: one dish twice", () -> sums(first, second), h -> h.product(0, 0), 4 + 9 + 25);
        answers("promise 12 product: of six the last twice", SIX, h -> h.product(5, 5), 0);
        answers("promise 12 product: a lost one has 0", () -> {
            DishHouse h = sums(first, second);
            h.lose(1);
            return h;
        }, h -> h.product(0, 1), 0);
        answers("promise 12 product: flagged items are not in it", () -> {
            DishHouse h = sums(first, second);
            h.flag(0, 0, 0);
            h.flag(1, 2, 2);
            return h;
        }, h -> h.product(0, 1), -33);
        answers("promise 12 product: each item at its own delay", () -> {
            DishHouse h = sums(first, second);
            h.tune(0, 1, 1);
            h.tune(1, 2, 1);
            return h;
        }, h -> h.product(0, 1), 39 + 500);
        answers("promise 12 product: the other way each item is still at its own delay", () -> {
            DishHouse h = sums(first, second);
            h.tune(0, 1, 1);
            h.tune(1, 2, 1);
            return h;
        }, h -> h.product(1, 0), 39 + 500);
        answers("terms 1 product: tick 99 is in it", () -> {
            DishHouse h = reels(100, 100);
            h.put(0, INTS, 99, 3);
            h.put(1, INTS, 99, 5);
            return h;
        }, h -> h.product(0, 1), 15);
        answers("terms 1 product: what lies ahead of the delay is not in it", () -> {
            DishHouse h = sums(new int[] {9, 9, 1}, new int[] {1, 1, 1});
            h.tune(0, 2, 1);
            return h;
        }, h -> h.product(0, 1), 1);
    }

    private static DishHouse tuned(int firstGain, int secondGain) {
        DishHouse h = sums(new int[] {2, -3}, new int[] {5, 7});
        h.tune(0, 0, firstGain);
        h.tune(1, 0, secondGain);
        return h;
    }

    private static void productGains() {
        answers("terms 1 product: both gains are in it", () -> tuned(4, 3), h -> h.product(0, 1), -11 * 12);
        answers("terms 1 product: a gain below 0 turns its sign", () -> tuned(-4, 3), h -> h.product(0, 1), 11 * 12);
        answers("terms 1 product: two gains below 0 do not", () -> tuned(-4, -3), h -> h.product(0, 1), -11 * 12);
        answers("terms 1 product: one dish twice has its gain twice", () -> tuned(-4, 3), h -> h.product(0, 0), 13 * 16);
        test("terms 1 product: the greatest there is", () -> {
            DishHouse h = full(500, 9, 500, 9);
            due("product(0, 1)", h.product(0, 1), 2025000000L);
        });
        test("terms 1 product: the least there is", () -> {
            DishHouse h = full(500, 9, -500, 9);
            due("product(0, 1)", h.product(0, 1), -2025000000L);
        });
        answers("terms 1 product: samples are cut ahead of the gains", () -> {
            DishHouse h = sums(new int[] {600}, new int[] {1});
            h.tune(0, 0, 9);
            return h;
        }, h -> h.product(0, 1), 4500);
    }

    private static DishHouse full(int first, int firstGain, int second, int secondGain) {
        DishHouse h = reels(100, 100);
        fillAll(h, 0, 100, first);
        fillAll(h, 1, 100, second);
        h.tune(0, 0, firstGain);
        h.tune(1, 0, secondGain);
        return h;
    }

    private static void productRefused() {
        refused("promise 12 product: i -1 is BAD, the least long", HOUSE, h -> h.product(-1, 0), LEAST_LONG);
        refused("promise 12 product: i behind the last is BAD", HOUSE, h -> h.product(5, 0), LEAST_LONG);
        refused("promise 12 product: j -1 is BAD", HOUSE, h -> h.product(0, -1), LEAST_LONG);
        refused("promise 12 product: j behind the last is BAD", HOUSE, h -> h.product(0, 5), LEAST_LONG);
        answers("promise 12 product: i 6 of six is BAD", SIX, h -> h.product(6, 0), LEAST_LONG);
        answers("promise 12 product: j 6 of six is BAD", SIX, h -> h.product(0, 6), LEAST_LONG);
    }

    /** Dish 0 with one item 1, dish 1 with what stands at so many places, all others 0. */
    private static DishHouse echo(int... placesAndValues) {
        DishHouse h = reels(1, 40);
        h.put(0, INTS, 0, 1);
        for (int n = 0; n < placesAndValues.length; n += 2) h.put(1, INTS, placesAndValues[n], placesAndValues[n + 1]);
        return h;
    }

    private static void delayBest() {
        answers("promise 13 delay: 0 is looked at", () -> echo(0, 5, 1, 4), h -> h.delay(0, 1), 0);
        answers("promise 13 delay: 1 is looked at", () -> echo(0, 4, 1, 5), h -> h.delay(0, 1), 1);
        answers("promise 13 delay: 29 is looked at", () -> echo(3, 4, 29, 5), h -> h.delay(0, 1), 29);
        answers("promise 13 delay: 30 is looked at", () -> echo(3, 4, 30, 5), h -> h.delay(0, 1), 30);
        answers("promise 13 delay: 31 is not", () -> echo(3, 4, 31, 5), h -> h.delay(0, 1), 3);
        answers("promise 13 delay: of two like ones the least", () -> echo(7, 5, 19, 5), h -> h.delay(0, 1), 7);
        answers("promise 13 delay: of 0 and 30 alike 0", () -> echo(0, 5, 30, 5), h -> h.delay(0, 1), 0);
        answers("promise 13 delay: where all are 0 it is 0", () -> echo(), h -> h.delay(0, 1), 0);
        answers("promise 13 delay: a product of 0 is greater than one below 0", () -> echo(0, -5, 1, -3, 2, 0),
                h -> h.delay(0, 1), 2);
        answers("promise 13 delay: the greatest, not that of the greatest amount", () -> echo(4, -9, 6, 2),
                h -> h.delay(0, 1), 6);
        answers("promise 13 delay: where all are below 0 the greatest", () -> {
            DishHouse h = echo();
            for (int i = 0; i <= 30; i++) h.put(1, INTS, i, i == 17 ? -1 : -2);
            return h;
        }, h -> h.delay(0, 1), 17);
        answers("promise 13 delay: items that are not there make it 0", () -> {
            DishHouse h = reels(1, 2);
            fill(h, 0, 1);
            fill(h, 1, -4, -4);
            return h;
        }, h -> h.delay(0, 1), 2);
        answers("promise 13 delay: of two lost ones 0, and that is no finding", () -> {
            DishHouse h = echo(4, 4);
            h.lose(0);
            h.lose(1);
            return h;
        }, h -> h.delay(0, 1) + h.count(6), 0);
    }

    private static DishHouse echoTuned(int delay, int gain, int otherDelay, int otherGain) {
        DishHouse h = reels(9, 40);
        h.put(0, INTS, 3, 1);
        h.put(1, INTS, 12, 5);
        h.put(1, INTS, 20, -6);
        h.tune(0, delay, gain);
        h.tune(1, otherDelay, otherGain);
        return h;
    }

    private static void delayWhat() {
        answers("promise 13 delay: both at 0", () -> echoTuned(0, 1, 0, 1), h -> h.delay(0, 1), 9);
        answers("promise 13 delay: the one that j has does not count", () -> echoTuned(0, 1, 30, 1),
                h -> h.delay(0, 1), 9);
        answers("promise 13 delay: the one that i has does", () -> echoTuned(2, 1, 0, 1), h -> h.delay(0, 1), 11);
        answers("promise 13 delay: gains do, one below 0", () -> echoTuned(0, -1, 0, 1), h -> h.delay(0, 1), 17);
        answers("promise 13 delay: gains do, both below 0", () -> echoTuned(0, -1, 0, -2), h -> h.delay(0, 1), 9);
        answers("promise 13 delay: the other way it is that of the other one", () -> echoTuned(0, 1, 11, 1),
                h -> h.delay(1, 0), 2);
        answers("promise 13 delay: flagged items do not count", () -> {
            DishHouse h = echoTuned(0, 1, 0, 1);
            h.flag(1, 12, 12);
            return h;
        }, h -> h.delay(0, 1), 0);
        test("promise 13 delay: it tunes nothing", () -> {
            DishHouse h = echoTuned(0, 1, 8, 1);
            h.delay(0, 1);
            due("product(0, 1)", h.product(0, 1), 0);
            h.tune(1, 9, 1);
            due("product(0, 1)", h.product(0, 1), 5);
        });
        test("promise 13 delay: samples are cut", () -> {
            DishHouse h = echo(4, 500, 9, 600);
            due("delay(0, 1)", h.delay(0, 1), 4);
        });
    }

    private static DishHouse twice(int delay, int gain, int... values) {
        DishHouse h = dishes(1, values.length);
        fill(h, 0, values);
        h.tune(0, delay, gain);
        return h;
    }

    private static void delayTwice() {
        answers("promise 13 delay: of one dish twice the first one's stays, at 0", () -> twice(0, 1, 1, 0, 0, 9),
                h -> h.delay(0, 0), 0);
        answers("promise 13 delay: of one dish twice the first one's stays, at 3", () -> twice(3, 1, 0, 0, 9, 1),
                h -> h.delay(0, 0), 2);
        answers("promise 13 delay: of one dish twice, ahead of its own", () -> twice(2, 1, 9, 0, 1), h -> h.delay(0, 0), 0);
        answers("promise 13 delay: of one dish twice its gain cannot turn the sign", () -> twice(2, -3, 9, 0, 1),
                h -> h.delay(0, 0), 0);
    }

    private static void delayRefused() {
        refused("promise 13 delay: i -1 is BAD", HOUSE, h -> h.delay(-1, 0), BAD);
        refused("promise 13 delay: i behind the last is BAD", HOUSE, h -> h.delay(5, 0), BAD);
        refused("promise 13 delay: j -1 is BAD", HOUSE, h -> h.delay(0, -1), BAD);
        refused("promise 13 delay: j behind the last is BAD", HOUSE, h -> h.delay(0, 5), BAD);
        answers("promise 13 delay: i 6 of six is BAD", SIX, h -> h.delay(6, 0), BAD);
        answers("promise 13 delay: j 6 of six is BAD", SIX, h -> h.delay(0, 6), BAD);
    }

    /** Three dishes with these products of 0 and 1, of 1 and 2, of 0 and 2. */
    private static DishHouse triangle(int p, int q, int r) {
        DishHouse h = dishes(3, 3);
        fill(h, 0, 1, 0, 1);
        fill(h, 1, p, 1, 0);
        fill(h, 2, 0, q, r);
        return h;
    }

    private static void threeSigns() {
        answers("promise 14 three: three above 0 are 1", () -> triangle(2, 3, 4), h -> h.three(0, 1, 2), 1);
        answers("promise 14 three: one below 0 is -1, that of i, j", () -> triangle(-2, 3, 4), h -> h.three(0, 1, 2), -1);
        answers("promise 14 three: one below 0 is -1, that of j, k", () -> triangle(2, -3, 4), h -> h.three(0, 1, 2), -1);
        answers("promise 14 three: one below 0 is -1, that of i, k", () -> triangle(2, 3, -4), h -> h.three(0, 1, 2), -1);
        answers("promise 14 three: two below 0 are 1", () -> triangle(-2, 3, -4), h -> h.three(0, 1, 2), 1);
        answers("promise 14 three: three below 0 are -1", () -> triangle(-2, -3, -4), h -> h.three(0, 1, 2), -1);
        answers("promise 14 three: a 0 of i, j is 0", () -> triangle(0, 3, 4), h -> h.three(0, 1, 2), 0);
        answers("promise 14 three: a 0 of j, k is 0", () -> triangle(2, 0, 4), h -> h.three(0, 1, 2), 0);
        answers("promise 14 three: a 0 of i, k is 0", () -> triangle(2, 3, 0), h -> h.three(0, 1, 2), 0);
        answers("promise 14 three: in any order", () -> triangle(2, 3, -4), h -> h.three(2, 0, 1), -1);
        answers("promise 14 three: whatever the gains are", () -> {
            DishHouse h = triangle(2, 3, -4);
            h.tune(0, 0, -9);
            h.tune(1, 0, 9);
            h.tune(2, 0, -1);
            return h;
        }, h -> h.three(0, 1, 2), -1);
        answers("promise 14 three: each with its own delay", () -> behindDelays(triangle(2, 3, -4), 3),
                h -> h.three(0, 1, 2), -1);
        answers("promise 14 three: each with its own delay, in another order", () -> behindDelays(triangle(2, 3, 4), 3),
                h -> h.three(2, 0, 1), 1);
        answers("promise 14 three: the greatest products wrap in a long, the sign does not", () -> greatest(3, 1),
                h -> h.three(0, 1, 2), 1);
        answers("promise 14 three: so do the least", () -> greatest(3, -1), h -> h.three(0, 1, 2), 1);
        answers("promise 14 three: of six the last", SIX, h -> h.three(3, 4, 5), 0);
    }

    /** Each dish has its items a dish number farther on and its delay at them; ahead of them what turns signs. */
    private static DishHouse behindDelays(DishHouse h, int items) {
        for (int d = 0; d < h.count(0); d++) {
            int[] was = new int[items];
            for (int i = 0; i < items; i++) was[i] = h.get(d, INTS, i);
            h.reel(d, INTS, items + d);
            for (int i = 0; i < d; i++) h.put(d, INTS, i, d % 2 == 0 ? -77 : 99);
            for (int i = 0; i < items; i++) h.put(d, INTS, d + i, was[i]);
            h.tune(d, d, 1);
        }
        return h;
    }

    /** All products are the greatest, or of one dish with each other the least. */
    private static DishHouse greatest(int dishes, int sign) {
        DishHouse h = dishes(dishes, 100);
        for (int d = 0; d < dishes; d++) {
            fillAll(h, d, 100, 500);
            h.tune(d, 0, d == 0 ? 9 * sign : 9);
        }
        return h;
    }

    private static void threeRefused() {
        refused("promise 14 three: i -1 is BAD", HOUSE, h -> h.three(-1, 1, 2), BAD);
        refused("promise 14 three: i behind the last is BAD", HOUSE, h -> h.three(5, 1, 2), BAD);
        refused("promise 14 three: j -1 is BAD", HOUSE, h -> h.three(0, -1, 2), BAD);
        refused("promise 14 three: j behind the last is BAD", HOUSE, h -> h.three(0, 5, 2), BAD);
        refused("promise 14 three: k -1 is BAD", HOUSE, h -> h.three(0, 1, -1), BAD);
        refused("promise 14 three: k behind the last is BAD", HOUSE, h -> h.three(0, 1, 5), BAD);
        refused("promise 14 three: i and j alike are BAD", HOUSE, h -> h.three(1, 1, 2), BAD);
        refused("promise 14 three: j and k alike are BAD", HOUSE, h -> h.three(0, 2, 2), BAD);
        refused("promise 14 three: i and k alike are BAD", HOUSE, h -> h.three(2, 1, 2), BAD);
        refused("promise 14 three: all alike are BAD", HOUSE, h -> h.three(1, 1, 1), BAD);
        answers("promise 14 three: number 6 of six is BAD", SIX, h -> h.three(4, 5, 6), BAD);
        answers("promise 14 three: of two dishes there are no three", () -> dishes(2, 1), h -> h.three(0, 1, 2), BAD);
    }

    /** Four dishes with these products of 0 and 1, 2 and 3, 0 and 2, 1 and 3. */
    private static DishHouse square(int p, int q, int r, int s) {
        DishHouse h = dishes(4, 4);
        fill(h, 0, 1, 0, 1, 0);
        fill(h, 1, p, 0, 0, 1);
        fill(h, 2, 0, 1, r, 0);
        fill(h, 3, 0, q, 0, s);
        return h;
    }

    private static void fourSigns() {
        answers("promise 15 four: 6 less 5 is 1", () -> square(2, 3, 5, 1), h -> h.four(0, 1, 2, 3), 1);
        answers("promise 15 four: 6 less 6 is 0", () -> square(2, 3, 6, 1), h -> h.four(0, 1, 2, 3), 0);
        answers("promise 15 four: 6 less 7 is -1", () -> square(2, 3, 7, 1), h -> h.four(0, 1, 2, 3), -1);
        answers("promise 15 four: -6 less -7 is 1", () -> square(-2, 3, 7, -1), h -> h.four(0, 1, 2, 3), 1);
        answers("promise 15 four: -6 less -5 is -1", () -> square(2, -3, 5, -1), h -> h.four(0, 1, 2, 3), -1);
        answers("promise 15 four: 0 less 1 is -1", () -> square(0, 3, 1, 1), h -> h.four(0, 1, 2, 3), -1);
        answers("promise 15 four: 1 less 0 is 1", () -> square(1, 1, 1, 0), h -> h.four(0, 1, 2, 3), 1);
        answers("promise 15 four: 0 less 0 is 0", () -> square(1, 0, 0, 1), h -> h.four(0, 1, 2, 3), 0);
        answers("promise 15 four: j and k the other way turn it", () -> square(2, 3, 5, 1), h -> h.four(0, 2, 1, 3), -1);
        test("promise 15 four: the sign is that of both, whatever the gains are", () -> {
            DishHouse h = square(2, 3, 5, 1);
            for (int d = 0; d < 4; d++) h.tune(d, 0, 9 - d);
            due("four(0, 1, 2, 3)", h.four(0, 1, 2, 3), 1);
            h.tune(2, 0, -1);
            due("with one gain below 0 both signs turn", h.four(0, 1, 2, 3), -1);
        });
        answers("promise 15 four: each with its own delay, 6 less 5", () -> behindDelays(square(2, 3, 5, 1), 4),
                h -> h.four(0, 1, 2, 3), 1);
        answers("promise 15 four: each with its own delay, 6 less 6", () -> behindDelays(square(2, 3, 6, 1), 4),
                h -> h.four(0, 1, 2, 3), 0);
        answers("promise 15 four: each with its own delay, 6 less 7", () -> behindDelays(square(2, 3, 7, 1), 4),
                h -> h.four(0, 1, 2, 3), -1);
        answers("promise 15 four: of six the last", SIX, h -> h.four(2, 3, 4, 5), 0);
    }

    private static void fourGreat() {
        answers("promise 15 four: the greatest two less the like is 0", () -> greatest(4, 1), h -> h.four(0, 1, 2, 3), 0);
        answers("promise 15 four: the least two less the like is 0", () -> greatest(4, -1), h -> h.four(0, 1, 2, 3), 0);
        test("promise 15 four: great ones that are hardly unlike", () -> {
            DishHouse h = greatest(4, 1);
            h.put(0, INTS, 99, 499);
            h.put(1, INTS, 99, 499);
            due("four(0, 1, 2, 3)", h.four(0, 1, 2, 3), 1);
            due("four(0, 2, 1, 3)", h.four(0, 2, 1, 3), -1);
            due("four(0, 2, 3, 1)", h.four(0, 2, 3, 1), 0);
        });
    }

    private static void fourRefused() {
        Supplier<DishHouse> house = HOUSE;
        refused("promise 15 four: i -1 is BAD", house, h -> h.four(-1, 1, 2, 3), BAD);
        refused("promise 15 four: i behind the last is BAD", house, h -> h.four(5, 1, 2, 3), BAD);
        refused("promise 15 four: j -1 is BAD", house, h -> h.four(0, -1, 2, 3), BAD);
        refused("promise 15 four: j behind the last is BAD", house, h -> h.four(0, 5, 2, 3), BAD);
        refused("promise 15 four: k -1 is BAD", house, h -> h.four(0, 1, -1, 3), BAD);
        refused("promise 15 four: k behind the last is BAD", house, h -> h.four(0, 1, 5, 3), BAD);
        refused("promise 15 four: l -1 is BAD", house, h -> h.four(0, 1, 2, -1), BAD);
        refused("promise 15 four: l behind the last is BAD", house, h -> h.four(0, 1, 2, 5), BAD);
        refused("promise 15 four: i and j alike are BAD", house, h -> h.four(1, 1, 2, 3), BAD);
        refused("promise 15 four: i and k alike are BAD", house, h -> h.four(2, 1, 2, 3), BAD);
        refused("promise 15 four: i and l alike are BAD", house, h -> h.four(3, 1, 2, 3), BAD);
        refused("promise 15 four: j and k alike are BAD", house, h -> h.four(0, 2, 2, 3), BAD);
        refused("promise 15 four: j and l alike are BAD", house, h -> h.four(0, 3, 2, 3), BAD);
        refused("promise 15 four: k and l alike are BAD", house, h -> h.four(0, 1, 3, 3), BAD);
        answers("promise 15 four: number 6 of six is BAD", SIX, h -> h.four(3, 4, 5, 6), BAD);
        answers("promise 15 four: of three dishes there are no four", () -> dishes(3, 1), h -> h.four(0, 1, 2, 3), BAD);
    }
}
