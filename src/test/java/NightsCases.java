import java.util.function.Supplier;

/** Promises 26 to 32 and "Terms" of nights: each boundary case by itself. */
public final class NightsCases extends Cases {
    private static final int WAIT = 0, POINT = 1, WATCH = 2, REPEAT = 3, STORM = 4, PARK = 5;
    private static final int BEHIND = 0, CLASH = 1, LATE = 2, SPENT = 3;
    private static final Supplier<DishHouse> NEW = DishHouse::new;
    private static final Supplier<DishHouse> HOUSE = Cases::furnished;

    public static void main(String[] args) {
        sourceAccepted();
        sourceRefused();
        orderAccepted();
        orderRefused();
        orderFull();
        wipe();
        nightBegins();
        nightEnds();
        nightLate();
        nightClash();
        nightDays();
        nightSpent();
        nightRefused();
        turns();
        turnsOneAfterTheOther();
        watches();
        storms();
        stormsTwo();
        repeats();
        repeatsWithin();
        told();
        toldRefused();
        count();
        digest();
        end("NightsCases");
    }

    /** A house with these orders, three numbers each. */
    private static DishHouse program(int... orders) {
        DishHouse h = new DishHouse();
        add(h, orders);
        return h;
    }

    private static void add(DishHouse h, int... orders) {
        for (int n = 0; n < orders.length; n += 3) {
            int answer = h.order(orders[n], orders[n + 1], orders[n + 2]);
            if (answer < 0) due("order " + n / 3, answer, n / 3);
        }
    }

    /** A source that rises at a and sets at b, watched for so many minutes from a minute below 1200 on. */
    private static long watched(int a, int b, int from, int minutes) {
        DishHouse h = program(WAIT, Math.min(from, 600), 0, WAIT, Math.max(0, from - 600), 0, WATCH, minutes, 4);
        due("source", h.source(4, a, b), 1);
        return h.night(100000);
    }

    private static void sourceAccepted() {
        answers("promise 26 source: 0 is told", NEW, h -> h.source(0, 5, 9), 1);
        answers("promise 26 source: 7 is told", NEW, h -> h.source(7, 5, 9), 1);
        answers("promise 26 source: a 0 is told", NEW, h -> h.source(0, 0, 9), 1);
        answers("promise 26 source: b 1440 is told", NEW, h -> h.source(0, 9, 1440), 1);
        answers("promise 26 source: a 0 and b 1440 are told", NEW, h -> h.source(0, 0, 1440), 1);
        answers("promise 26 source: a just less than b", NEW, h -> h.source(0, 8, 9), 1);
        answers("promise 26 source: a 0 and b 1", NEW, h -> h.source(0, 0, 1), 1);
        answers("promise 26 source: a 1439 and b 1440", NEW, h -> h.source(0, 1439, 1440), 1);
        test("promise 26 source: each has its own minutes", () -> {
            for (int s = 0; s < 8; s++) {
                DishHouse h = new DishHouse();
                h.source(s, 10, 20);
                for (int t = 0; t < 8; t++) {
                    h.wipe();
                    add(h, WATCH, 1, t);
                    due("source " + t + " by that of " + s, h.night(5), t == s ? CLASH : BEHIND);
                }
            }
        });
        test("promise 26 source: told anew, the old minutes are gone", () -> {
            DishHouse h = program(WATCH, 10, 3);
            h.source(3, 5, 15);
            due("night", h.night(100), CLASH);
            h.source(3, 0, 10);
            due("night", h.night(100), BEHIND);
            h.source(3, 0, 9);
            due("night", h.night(100), CLASH);
            h.source(3, 0, 1440);
            due("night", h.night(100), BEHIND);
        });
    }

    private static void sourceRefused() {
        refused("promise 26 source: -1 is BAD", HOUSE, h -> h.source(-1, 0, 9), BAD);
        refused("promise 26 source: 8 is BAD", HOUSE, h -> h.source(8, 0, 9), BAD);
        refused("promise 26 source: a -1 is BAD", HOUSE, h -> h.source(0, -1, 9), BAD);
        refused("promise 26 source: b 1441 is BAD", HOUSE, h -> h.source(0, 300, 1441), BAD);
        refused("promise 26 source: a like b is BAD", HOUSE, h -> h.source(0, 500, 500), BAD);
        refused("promise 26 source: a above b is BAD", HOUSE, h -> h.source(0, 501, 500), BAD);
        refused("promise 26 source: a and b 0 are BAD", HOUSE, h -> h.source(0, 0, 0), BAD);
        refused("promise 26 source: a and b 1440 are BAD", HOUSE, h -> h.source(0, 1440, 1440), BAD);
        refused("promise 26 source: a the least int is BAD", HOUSE, h -> h.source(0, LEAST_INT, 9), BAD);
        refused("promise 26 source: b the greatest int is BAD", HOUSE, h -> h.source(0, 300, MOST_INT), BAD);
    }

    private static void fits(String caseName, int kind, int a, int b) {
        answers("promise 27 order: " + caseName, NEW, h -> h.order(kind, a, b), 0);
    }

    private static void orderAccepted() {
        fits("WAIT 0 minutes", WAIT, 0, 0);
        fits("WAIT 600 minutes", WAIT, 600, 0);
        fits("POINT at 0", POINT, 0, 0);
        fits("POINT at 359", POINT, 359, 0);
        fits("WATCH 1 minute", WATCH, 1, 0);
        fits("WATCH 600 minutes", WATCH, 600, 0);
        fits("WATCH source 7", WATCH, 1, 7);
        fits("STORM 1 minute", STORM, 1, 0);
        fits("STORM 600 minutes", STORM, 600, 0);
        fits("PARK", PARK, 0, 0);
        Supplier<DishHouse> three = () -> program(WAIT, 1, 0, WAIT, 1, 0, WAIT, 1, 0);
        answers("promise 27 order: REPEAT from 0", three, h -> h.order(REPEAT, 0, 1), 3);
        answers("promise 27 order: REPEAT from just less than its own number", three, h -> h.order(REPEAT, 2, 1), 3);
        answers("promise 27 order: REPEAT 50 times", three, h -> h.order(REPEAT, 2, 50), 3);
        test("promise 27 order: numbers are 0 .. 59", () -> {
            DishHouse h = new DishHouse();
            for (int n = 0; n < 60; n++) due("order", h.order(WAIT, n, 0), n);
            due("count(4)", h.count(4), 60);
            due("night", h.night(5000), BEHIND);
            due("told(0)", h.told(0), 59 * 60 / 2);
        });
    }

    private static void unfit(String caseName, int kind, int a, int b) {
        refused("promise 27 order: " + caseName + " is BAD", HOUSE, h -> h.order(kind, a, b), BAD);
    }

    private static void orderRefused() {
        unfit("kind -1", -1, 0, 0);
        unfit("kind 6", 6, 0, 0);
        unfit("WAIT -1", WAIT, -1, 0);
        unfit("WAIT 601", WAIT, 601, 0);
        unfit("WAIT with a b", WAIT, 5, 1);
        unfit("WAIT with a b below 0", WAIT, 5, -1);
        unfit("POINT at -1", POINT, -1, 0);
        unfit("POINT at 360", POINT, 360, 0);
        unfit("POINT with a b", POINT, 5, 1);
        unfit("POINT with a b below 0", POINT, 5, -1);
        unfit("WATCH 0", WATCH, 0, 3);
        unfit("WATCH 601", WATCH, 601, 3);
        unfit("WATCH of source -1", WATCH, 5, -1);
        unfit("WATCH of source 8", WATCH, 5, 8);
        unfit("REPEAT from -1", REPEAT, -1, 1);
        unfit("REPEAT from its own number", REPEAT, 13, 1);
        unfit("REPEAT 0 times", REPEAT, 0, 0);
        unfit("REPEAT -1 times", REPEAT, 0, -1);
        unfit("REPEAT 51 times", REPEAT, 0, 51);
        unfit("STORM 0", STORM, 0, 0);
        unfit("STORM 601", STORM, 601, 0);
        unfit("STORM with a b", STORM, 5, 1);
        unfit("STORM with a b below 0", STORM, 5, -1);
        unfit("PARK with an a", PARK, 1, 0);
        unfit("PARK with an a below 0", PARK, -1, 0);
        unfit("PARK with a b", PARK, 0, 1);
        unfit("PARK with a b below 0", PARK, 0, -1);
        answers("promise 27 order: REPEAT as the first order is BAD", NEW, h -> h.order(REPEAT, 0, 1), BAD);
        test("promise 27 order: the furnished house has thirteen, so 12 is just less", () -> {
            DishHouse h = furnished();
            due("count(4)", h.count(4), 13);
            due("order", h.order(REPEAT, 12, 1), 13);
        });
    }

    private static DishHouse sixtyOrders() {
        DishHouse h = furnished();
        for (int n = 13; n < 60; n++) h.order(WAIT, n, 0);
        return h;
    }

    private static void orderFull() {
        refused("promise 27 order: a sixty-first is FULL", NightsCases::sixtyOrders, h -> h.order(WAIT, 1, 0), FULL);
        refused("promise 27 order: a sixty-first REPEAT is FULL", NightsCases::sixtyOrders,
                h -> h.order(REPEAT, 59, 1), FULL);
        refused("promise 27 order: a sixty-first not as told is BAD ahead of FULL", NightsCases::sixtyOrders,
                h -> h.order(WAIT, 601, 0), BAD);
        refused("promise 27 order: a sixty-first REPEAT from its own number is BAD ahead of FULL",
                NightsCases::sixtyOrders, h -> h.order(REPEAT, 60, 1), BAD);
        answers("promise 27 order: when they are wiped one fits again", NightsCases::sixtyOrders,
                h -> 100 * h.wipe() + h.order(WAIT, 1, 0), 6000);
    }

    private static void wipe() {
        answers("promise 28 wipe: where there are none 0", NEW, h -> h.wipe(), 0);
        answers("promise 28 wipe: where there are sixty 60", NightsCases::sixtyOrders, h -> h.wipe(), 60);
        answers("promise 28 wipe: a second time 0", NightsCases::sixtyOrders, h -> h.wipe() + h.wipe(), 60);
        test("promise 28 wipe: what is told of the latest run stays", () -> {
            DishHouse h = program(WAIT, 7, 0);
            h.night(10);
            h.wipe();
            due("told(0)", h.told(0), 7);
            due("told(3)", h.told(3), 1);
        });
        test("promise 28 wipe: sources stay as they were told", () -> {
            DishHouse h = program(WATCH, 7, 0);
            h.source(0, 1, 2);
            h.wipe();
            add(h, WATCH, 7, 0);
            due("night", h.night(10), CLASH);
        });
        test("promise 28 wipe: what a REPEAT had is gone", () -> {
            DishHouse h = program(WAIT, 1, 0, REPEAT, 0, 5);
            h.night(100);
            h.wipe();
            add(h, WAIT, 1, 0, WAIT, 1, 0, WAIT, 1, 0);
            h.night(100);
            due("told(0)", h.told(0), 3);
        });
    }

    private static void nightBegins() {
        test("terms 3 run: it begins at minute 0 and azimuth 0 each time", () -> {
            DishHouse h = program(POINT, 60, 0, WAIT, 5, 0);
            for (int n = 0; n < 3; n++) {
                due("night", h.night(15), BEHIND);
                due("told(0)", h.told(0), 15);
                due("told(1)", h.told(1), 60);
                due("told(5)", h.told(5), 10);
            }
        });
        test("terms 3 run: minutes watched begin at 0 each time", () -> {
            DishHouse h = program(WATCH, 5, 6);
            for (int n = 0; n < 3; n++) {
                h.night(15);
                due("told(2)", h.told(2), 5);
                due("told(16)", h.told(16), 5);
                due("told(3)", h.told(3), 1);
            }
        });
        test("terms 3 run: a program without orders ends behind the last at once", () -> {
            DishHouse h = new DishHouse();
            due("night", h.night(0), BEHIND);
            due("told(3)", h.told(3), 0);
            due("told(4)", h.told(4), NONE);
        });
        test("terms 3 run: no storm is left of the run before", () -> {
            DishHouse h = program(STORM, 600, 0);
            h.night(10);
            h.wipe();
            add(h, WATCH, 5, 0);
            h.night(10);
            due("told(2)", h.told(2), 5);
        });
        test("terms 3 run: one that ended amid its repeats leaves nothing to the next", () -> {
            DishHouse h = program(WAIT, 10, 0, REPEAT, 0, 3);
            due("night", h.night(25), LATE);
            due("night", h.night(40), BEHIND);
            due("told(3)", h.told(3), 8);
        });
    }

    private static void nightEnds() {
        answers("promise 29 night: last 0 is told", NEW, h -> h.night(0), BEHIND);
        answers("promise 29 night: last 100000 is told", NEW, h -> h.night(100000), BEHIND);
        answers("promise 29 night: orders of no minutes fit a night of 0",
                () -> program(WAIT, 0, 0, POINT, 0, 0, STORM, 600, 0, PARK, 0, 0, REPEAT, 0, 1), h -> h.night(0), BEHIND);
        test("promise 29 night: up to the greatest minute", () -> {
            // 166 times 600 minutes and 400 more
            DishHouse h = program(WAIT, 600, 0, REPEAT, 0, 50, REPEAT, 0, 2, WAIT, 600, 0, REPEAT, 3, 12, WAIT, 400, 0);
            due("night(100000)", h.night(100000), BEHIND);
            due("told(0)", h.told(0), 100000);
            due("night(99999)", h.night(99999), LATE);
            due("told(0)", h.told(0), 99600);
            add(h, WAIT, 1, 0);
            due("night(100000)", h.night(100000), LATE);
            due("told(4)", h.told(4), 6);
        });
        test("promise 29 night: behind the last one told(4) is NONE again", () -> {
            DishHouse h = program(WAIT, 10, 0);
            h.night(9);
            due("told(4)", h.told(4), 0);
            h.night(10);
            due("told(4)", h.told(4), NONE);
        });
    }

    private static void late(String caseName, int kind, int a, int b, int minutes) {
        test("terms 3 late: " + caseName, () -> {
            DishHouse h = program(WAIT, 7, 0, kind, a, b);
            due("just in time", h.night(7 + minutes), BEHIND);
            due("told(0)", h.told(0), 7 + minutes);
            due("a minute less", h.night(6 + minutes), LATE);
            due("told(0)", h.told(0), 7);
            due("told(1)", h.told(1), 0);
            due("told(2)", h.told(2), 0);
            due("told(3)", h.told(3), 1);
            due("told(4)", h.told(4), 1);
            due("told(5)", h.told(5), 0);
        });
    }

    private static void nightLate() {
        late("a WAIT that ends at the told minute is done, above it not", WAIT, 1, 0, 1);
        late("a POINT that ends at the told minute is done, above it not", POINT, 7, 0, 2);
        late("a WATCH that ends at the told minute is done, above it not", WATCH, 600, 5, 600);
        test("terms 3 late: a PARK too", () -> {
            DishHouse h = program(POINT, 12, 0, PARK, 0, 0);
            due("night(4)", h.night(4), BEHIND);
            due("night(3)", h.night(3), LATE);
            due("told(1)", h.told(1), 12);
            due("told(4)", h.told(4), 1);
        });
        answers("terms 3 late: a STORM takes no minutes, it may last above the told minute",
                () -> program(WAIT, 7, 0, STORM, 600, 0), h -> h.night(7), BEHIND);
        answers("terms 3 late: a REPEAT takes none", () -> program(WAIT, 7, 0, REPEAT, 0, 1), h -> h.night(14), BEHIND);
        test("terms 3 late: asked ahead of CLASH", () -> {
            DishHouse h = program(WATCH, 10, 0);
            h.source(0, 1, 5);
            due("night(9)", h.night(9), LATE);
            due("night(10)", h.night(10), CLASH);
        });
    }

    private static void watchedCase(String caseName, int a, int b, int from, int minutes, int want) {
        test("terms 3 clash: " + caseName, () -> due("night", watched(a, b, from, minutes), want));
    }

    private static void nightClash() {
        watchedCase("a source watched from its rise to its set is up", 100, 200, 100, 100, BEHIND);
        watchedCase("at the minute ahead of its rise it is not", 100, 200, 99, 1, CLASH);
        watchedCase("at its rise it is", 100, 200, 100, 1, BEHIND);
        watchedCase("at the last minute ahead of its set it is", 100, 200, 199, 1, BEHIND);
        watchedCase("at its set it is not", 100, 200, 200, 1, CLASH);
        watchedCase("its first minute alone is not up", 100, 200, 99, 50, CLASH);
        watchedCase("its last minute alone is not up", 100, 200, 150, 51, CLASH);
        watchedCase("both its ends are not up", 100, 200, 99, 102, CLASH);
        watchedCase("up for one minute", 100, 101, 100, 1, BEHIND);
        watchedCase("up for one minute, watched for two", 100, 101, 100, 2, CLASH);
        watchedCase("it rises at minute 0", 0, 10, 0, 10, BEHIND);
        watchedCase("it sets at minute 1440", 900, 1440, 900, 540, BEHIND);
        test("terms 3 clash: the WATCH is not done", () -> {
            DishHouse h = program(WAIT, 3, 0, POINT, 6, 0, WATCH, 5, 2, WAIT, 9, 0);
            h.source(2, 0, 8);
            due("night", h.night(100), CLASH);
            int[] want = {4, 6, 0, 2, 2, 1};
            for (int what = 0; what < 6; what++) due("told(" + what + ")", h.told(what), want[what]);
            due("told(12)", h.told(12), 0);
        });
        test("terms 3 clash: in a storm too", () -> {
            DishHouse h = program(STORM, 100, 0, WATCH, 5, 2);
            h.source(2, 1, 8);
            due("night", h.night(100), CLASH);
        });
        test("terms 3 clash: the other orders ask no source", () -> {
            DishHouse h = program(WAIT, 5, 0, POINT, 8, 0, STORM, 9, 0, PARK, 0, 0);
            for (int s = 0; s < 8; s++) h.source(s, 1000, 1001);
            due("night", h.night(100), BEHIND);
        });
    }

    /** The same a day later, and over the end of a day. */
    private static void nightDays() {
        test("terms 3 sources: again each 1440, at the same minutes", () -> {
            DishHouse h = program(WAIT, 600, 0, WAIT, 600, 0, WAIT, 340, 0, WATCH, 100, 0);
            h.source(0, 100, 200);
            due("from minute 1540 to 1640", h.night(100000), BEHIND);
            h.source(0, 101, 200);
            due("it rises a minute later", h.night(100000), CLASH);
            h.source(0, 100, 199);
            due("it sets a minute sooner", h.night(100000), CLASH);
        });
        test("terms 3 sources: on the seventieth day too", () -> {
            // 69 days are 99360 minutes: 165 times 600 and 360
            DishHouse h = program(WAIT, 600, 0, REPEAT, 0, 50, REPEAT, 0, 2, WAIT, 600, 0, REPEAT, 3, 11, WAIT, 360, 0,
                    WATCH, 10, 0);
            h.source(0, 0, 10);
            due("night", h.night(100000), BEHIND);
            due("told(0)", h.told(0), 99370);
            h.source(0, 0, 9);
            due("night", h.night(100000), CLASH);
        });
        Supplier<DishHouse> overMidnight = () -> program(WAIT, 600, 0, WAIT, 600, 0, WAIT, 239, 0, WATCH, 2, 0);
        answers("terms 3 sources: none told is up over the day's end", overMidnight, h -> h.night(2000), BEHIND);
        answers("terms 3 sources: 0 to 1440 is up over the day's end", overMidnight,
                h -> 10 * h.source(0, 0, 1440) + h.night(2000), 10 + BEHIND);
        answers("terms 3 sources: 1 to 1440 is not up at the day's first minute", overMidnight,
                h -> 10 * h.source(0, 1, 1440) + h.night(2000), 10 + CLASH);
        answers("terms 3 sources: 0 to 1439 is not up at the day's last minute", overMidnight,
                h -> 10 * h.source(0, 0, 1439) + h.night(2000), 10 + CLASH);
        answers("terms 3 sources: one that sets at 1440 is up at the day's last minute",
                () -> program(WAIT, 600, 0, WAIT, 600, 0, WAIT, 239, 0, WATCH, 1, 0),
                h -> 10 * h.source(0, 1439, 1440) + h.night(2000), 10 + BEHIND);
        answers("terms 3 sources: one that rises at 0 is up at minute 1440",
                () -> program(WAIT, 600, 0, WAIT, 600, 0, WAIT, 240, 0, WATCH, 1, 0),
                h -> 10 * h.source(0, 0, 1) + h.night(2000), 10 + BEHIND);
        answers("terms 3 sources: one that sets at 1440 is not up at minute 1440",
                () -> program(WAIT, 600, 0, WAIT, 600, 0, WAIT, 240, 0, WATCH, 1, 0),
                h -> 10 * h.source(0, 1439, 1440) + h.night(2000), 10 + CLASH);
    }

    /** A program of which so many orders are done, 1957 to 2014 of them, and none takes a minute. */
    private static DishHouse longRun(int done) {
        DishHouse h = program(WAIT, 0, 0, REPEAT, 0, 50, REPEAT, 0, 18);
        // the WAIT and the first REPEAT are done 51 times each ahead of the second one, and that 19 times
        for (int n = 19 * (51 + 51 + 1); n < done; n++) h.order(WAIT, 0, 0);
        return h;
    }

    private static void nightSpent() {
        test("terms 3 spent: 2000 orders that end behind the last are not SPENT", () -> {
            DishHouse h = longRun(2000);
            due("night", h.night(0), BEHIND);
            due("told(3)", h.told(3), 2000);
            due("told(4)", h.told(4), NONE);
        });
        test("terms 3 spent: one more is come to", () -> {
            DishHouse h = longRun(2001);
            due("night", h.night(0), SPENT);
            due("told(3)", h.told(3), 2000);
            due("told(4)", h.told(4), 46);
        });
        test("terms 3 spent: 1999 orders", () -> {
            DishHouse h = longRun(1999);
            due("night", h.night(0), BEHIND);
            due("told(3)", h.told(3), 1999);
        });
        test("terms 3 spent: asked ahead of LATE", () -> {
            DishHouse h = longRun(2000);
            h.order(WAIT, 1, 0);
            due("night", h.night(0), SPENT);
        });
        test("terms 3 spent: asked ahead of CLASH", () -> {
            DishHouse h = longRun(2000);
            h.source(0, 5, 6);
            h.order(WATCH, 1, 0);
            due("night", h.night(10), SPENT);
            due("told(4)", h.told(4), 46);
        });
        test("terms 3 spent: LATE as the 2000th is LATE", () -> {
            DishHouse h = longRun(1999);
            h.order(WAIT, 1, 0);
            due("night", h.night(0), LATE);
            due("told(3)", h.told(3), 1999);
        });
        test("terms 3 spent: CLASH as the 2000th is CLASH", () -> {
            DishHouse h = longRun(1999);
            h.source(0, 5, 6);
            h.order(WATCH, 1, 0);
            due("night", h.night(10), CLASH);
        });
        test("terms 3 spent: a REPEAT may be the one more that is come to", () -> {
            DishHouse h = longRun(2000);
            h.order(REPEAT, 0, 1);
            due("night", h.night(0), SPENT);
            due("told(4)", h.told(4), 46);
        });
        test("terms 3 spent: a REPEAT may be the 2000th, what is come to then is one more", () -> {
            DishHouse h = longRun(1999);
            h.order(REPEAT, 7, 1);
            due("night", h.night(0), SPENT);
            due("told(4)", h.told(4), 7);
            due("told(3)", h.told(3), 2000);
        });
    }

    private static void nightRefused() {
        refused("promise 29 night: -1 is BAD", HOUSE, h -> h.night(-1), BAD);
        refused("promise 29 night: 100001 is BAD", HOUSE, h -> h.night(100001), BAD);
        refused("promise 29 night: the least int is BAD", HOUSE, h -> h.night(LEAST_INT), BAD);
        refused("promise 29 night: the greatest int is BAD", HOUSE, h -> h.night(MOST_INT), BAD);
        refused("promise 29 night: BAD leaves what is told of a run that was LATE", () -> {
            DishHouse h = furnished();
            h.night(120);
            return h;
        }, h -> h.night(-1), BAD);
    }

    private static void turn(int from, int to, int minutes) {
        test("terms 3 point: from " + from + " to " + to + " in " + minutes, () -> {
            DishHouse h = program(POINT, from, 0, POINT, to, 0);
            int before = (Math.min(from, 360 - from) + 5) / 6;
            due("night", h.night(1000), BEHIND);
            due("told(0)", h.told(0), before + minutes);
            due("told(5)", h.told(5), before + minutes);
            due("told(1)", h.told(1), to);
        });
    }

    private static void turns() {
        turn(0, 0, 0);
        turn(0, 1, 1);
        turn(0, 5, 1);
        turn(0, 6, 1);
        turn(0, 7, 2);
        turn(0, 12, 2);
        turn(0, 13, 3);
        turn(0, 174, 29);
        turn(0, 175, 30);
        turn(0, 179, 30);
        turn(0, 180, 30);
        turn(0, 181, 30);
        turn(0, 185, 30);
        turn(0, 186, 29);
        turn(0, 353, 2);
        turn(0, 354, 1);
        turn(0, 359, 1);
        turn(359, 0, 1);
        turn(359, 359, 0);
        turn(350, 10, 4);
        turn(10, 350, 4);
        turn(90, 270, 30);
        turn(270, 90, 30);
        turn(91, 270, 30);
        turn(84, 270, 29);
        turn(359, 1, 1);
        turn(100, 40, 10);
    }

    private static void turnsOneAfterTheOther() {
        test("terms 3 point: a part of a minute is a whole one each time", () -> {
            DishHouse h = program(POINT, 1, 0, POINT, 2, 0, POINT, 3, 0);
            h.night(100);
            due("told(5)", h.told(5), 3);
        });
        test("terms 3 park: as POINT 0, the shorter way", () -> {
            DishHouse h = program(POINT, 340, 0, PARK, 0, 0);
            h.night(100);
            due("told(0)", h.told(0), 8);
            due("told(1)", h.told(1), 0);
            due("told(5)", h.told(5), 8);
        });
        test("terms 3 park: at 0 it takes none", () -> {
            DishHouse h = program(PARK, 0, 0);
            due("night", h.night(0), BEHIND);
            due("told(3)", h.told(3), 1);
        });
        test("terms 3 wait: it turns and watches nothing", () -> {
            DishHouse h = program(WAIT, 600, 0);
            h.night(600);
            int[] want = {600, 0, 0, 1, NONE, 0};
            for (int what = 0; what < 6; what++) due("told(" + what + ")", h.told(what), want[what]);
        });
    }

    private static void watches() {
        test("terms 3 watch: the source is the b-th, each by itself", () -> {
            DishHouse h = new DishHouse();
            for (int s = 0; s < 8; s++) h.order(WATCH, s + 1, s);
            h.order(WATCH, 100, 7);
            due("night", h.night(136), BEHIND);
            due("told(2)", h.told(2), 136);
            for (int s = 0; s < 8; s++) due("told(" + (10 + s) + ")", h.told(10 + s), s == 7 ? 108 : s + 1);
        });
        test("terms 3 watch: the azimuth does not matter", () -> {
            DishHouse h = program(POINT, 180, 0, WATCH, 3, 0);
            due("night", h.night(33), BEHIND);
            due("told(1)", h.told(1), 180);
            due("told(2)", h.told(2), 3);
        });
    }

    private static void storm(String caseName, int want, int... orders) {
        test("terms 3 storm: " + caseName, () -> {
            DishHouse h = program(orders);
            due("night", h.night(100000), BEHIND);
            due("told(2)", h.told(2), want);
            due("told(13)", h.told(13), want);
        });
    }

    private static void storms() {
        storm("all of a WATCH lies in it", 0, STORM, 10, 0, WATCH, 10, 3);
        storm("a WATCH a minute longer has that one", 1, STORM, 10, 0, WATCH, 11, 3);
        storm("of 1 minute", 9, STORM, 1, 0, WATCH, 10, 3);
        storm("of 600 minutes", 0, STORM, 600, 0, WATCH, 600, 3);
        storm("from now on: what was ahead of it is watched", 10, WATCH, 10, 3, STORM, 600, 0);
        storm("it goes on over a WAIT", 5, STORM, 10, 0, WAIT, 5, 0, WATCH, 10, 3);
        storm("it has ended just at the WATCH", 10, STORM, 10, 0, WAIT, 10, 0, WATCH, 10, 3);
        storm("its last minute is not watched", 9, STORM, 10, 0, WAIT, 9, 0, WATCH, 10, 3);
        storm("it has ended long ago", 10, STORM, 10, 0, WAIT, 300, 0, WATCH, 10, 3);
        storm("it goes on over a turn", 4, STORM, 5, 0, POINT, 24, 0, WATCH, 5, 3);
        storm("it goes on over two WATCHes", 2, STORM, 10, 0, WATCH, 6, 3, WATCH, 6, 3);
        test("terms 3 storm: the minutes of a WATCH pass in it all the same", () -> {
            DishHouse h = program(STORM, 10, 0, WATCH, 10, 3);
            h.night(100);
            due("told(0)", h.told(0), 10);
            due("told(3)", h.told(3), 2);
        });
    }

    private static void stormsTwo() {
        storm("one within another ends with the one that ends last, the first", 2,
                STORM, 20, 0, WATCH, 4, 3, STORM, 5, 0, WATCH, 18, 3);
        storm("one within another ends with the one that ends last, the second", 3,
                STORM, 10, 0, WATCH, 4, 3, STORM, 15, 0, WATCH, 18, 3);
        storm("two that end alike", 1, STORM, 10, 0, WAIT, 4, 0, STORM, 6, 0, WATCH, 7, 3);
        storm("two of one minute are not added", 5, STORM, 10, 0, STORM, 10, 0, WATCH, 15, 3);
        storm("one behind the other", 4, STORM, 3, 0, WATCH, 5, 3, STORM, 3, 0, WATCH, 5, 3);
        storm("told again by a REPEAT", 6, STORM, 4, 0, WATCH, 6, 3, REPEAT, 0, 2);
    }

    private static void repeat(String caseName, int minutes, int done, int... orders) {
        test("terms 3 repeat: " + caseName, () -> {
            DishHouse h = program(orders);
            due("night", h.night(100000), BEHIND);
            due("told(0)", h.told(0), minutes);
            due("told(3)", h.told(3), done);
            due("told(4)", h.told(4), NONE);
        });
    }

    private static void repeats() {
        repeat("once more is twice", 2, 4, WAIT, 1, 0, REPEAT, 0, 1);
        repeat("50 times more is 51 times", 51, 102, WAIT, 1, 0, REPEAT, 0, 50);
        repeat("from a on alone", 10 + 3, 1 + 6, WAIT, 10, 0, WAIT, 1, 0, REPEAT, 1, 2);
        repeat("what lies behind is done once", 2 + 100, 5, WAIT, 1, 0, REPEAT, 0, 1, WAIT, 100, 0);
        repeat("one of one ahead of it, its own number less 1", 4, 5, WAIT, 2, 0, WAIT, 1, 0, REPEAT, 1, 1);
        repeat("two one behind the other", 3 + 4, 6 + 8, WAIT, 1, 0, REPEAT, 0, 2, WAIT, 1, 0, REPEAT, 2, 3);
    }

    private static void repeatsWithin() {
        repeat("within one another, it is whole again", 2 * (10 + 3), 2 * (1 + 6) + 2,
                WAIT, 10, 0, WAIT, 1, 0, REPEAT, 1, 2, REPEAT, 0, 1);
        repeat("three within one another", 2 * 3 * 4, 2 * (3 * (4 * 2) + 3) + 2,
                WAIT, 1, 0, REPEAT, 0, 3, REPEAT, 0, 2, REPEAT, 0, 1);
        // 0 1 0 1 2, 1 0 1 2, 1 0 1 2
        repeat("a later one that begins at an earlier one", 4, 13, WAIT, 1, 0, REPEAT, 0, 1, REPEAT, 1, 2);
        test("terms 3 repeat: one that crosses another", () -> {
            // 0 1 2 0 1 2 3 4, 1 2 0 1 2 3 4
            DishHouse h = program(WAIT, 1, 0, WAIT, 10, 0, REPEAT, 0, 1, WAIT, 100, 0, REPEAT, 1, 1);
            due("night", h.night(100000), BEHIND);
            due("told(0)", h.told(0), 3 + 40 + 200);
            due("told(3)", h.told(3), 15);
        });
        test("terms 3 repeat: watched minutes and turns are added each time", () -> {
            DishHouse h = program(POINT, 6, 0, WATCH, 5, 1, PARK, 0, 0, REPEAT, 0, 2);
            h.night(1000);
            due("told(5)", h.told(5), 6);
            due("told(11)", h.told(11), 15);
        });
    }

    private static void told() {
        for (int what = 0; what <= 5; what++) {
            int asked = what;
            answers("promise 30 told: " + what + " before any run", NEW, h -> h.told(asked), what == 4 ? NONE : 0);
        }
        for (int s = 0; s < 8; s++) {
            int asked = 10 + s;
            answers("promise 30 told: " + asked + " before any run", NEW, h -> h.told(asked), 0);
        }
        test("promise 30 told: each of its own", () -> {
            DishHouse h = program(POINT, 30, 0, WATCH, 7, 0, WAIT, 50, 0, WATCH, 11, 7, PARK, 0, 0, WAIT, 600, 0);
            due("night", h.night(100), LATE);
            int[] want = {78, 0, 18, 5, 5, 10};
            for (int what = 0; what < 6; what++) due("told(" + what + ")", h.told(what), want[what]);
            due("told(10)", h.told(10), 7);
            due("told(11)", h.told(11), 0);
            due("told(17)", h.told(17), 11);
        });
        test("promise 30 told: of the latest run, not of the one before", () -> {
            DishHouse h = program(WATCH, 7, 0, POINT, 60, 0);
            h.night(100);
            h.wipe();
            h.night(100);
            for (int what = 0; what < 6; what++) due("told(" + what + ")", h.told(what), what == 4 ? NONE : 0);
            due("told(10)", h.told(10), 0);
        });
        test("promise 30 told: orders and sources told since do not matter", () -> {
            DishHouse h = program(WATCH, 7, 0);
            h.night(100);
            h.source(0, 5, 6);
            h.order(WAIT, 9, 0);
            due("told(0)", h.told(0), 7);
            due("told(10)", h.told(10), 7);
        });
    }

    private static void toldRefused() {
        int[] none = {-1, 6, 7, 8, 9, 18, LEAST_INT, MOST_INT};
        for (int what : none) refused("promise 30 told: " + what + " is BAD", HOUSE, h -> h.told(what), BAD);
    }

    private static void count() {
        int[] want = {5, 3, 2, 3, 13, 11 * 14, NULL};
        for (int what = 0; what <= 6; what++) {
            int asked = what;
            answers("promise 31 count: " + what + " is told", HOUSE, h -> h.count(asked), want[what]);
        }
        int[] full = {6, 40, 10, 200, 60, 256};
        test("promise 31 count: of all that is full", () -> {
            DishHouse h = dishes(6, 1);
            for (int n = 0; n < 40; n++) h.flag(n % 6, 1, 1);
            for (int n = 0; n < 10; n++) h.point(0, 0, 1000);
            for (int n = 0; n < 60; n++) h.order(PARK, 0, 0);
            h.board(1);
            for (int n = 0; n < 4; n++) h.take(1, 50);
            for (int what = 0; what < full.length; what++) due("count(" + what + ")", h.count(what), full[what]);
        });
        test("promise 31 count: 6 is the latest finding, a later call that is answered leaves it", () -> {
            DishHouse h = dishes(1, 1);
            h.reel(0, INTS, -1);
            h.put(0, INTS, 1, 1);
            due("count(6)", h.count(6), INDEX);
            h.put(0, INTS, 0, 1);
            due("count(6)", h.count(6), INDEX);
            h.put(9, INTS, 0, 1);
            due("count(6) after BAD", h.count(6), INDEX);
            h.lose(0);
            h.lose(0);
            due("count(6)", h.count(6), NULL);
        });
        int[] none = {-1, 7, LEAST_INT, MOST_INT};
        for (int what : none) refused("promise 31 count: " + what + " is BAD", HOUSE, h -> h.count(what), BAD);
    }

    /** The digest by the words of the document, from the house's own answers; some 320 calls. */
    private static long digestOf(DishHouse h) {
        long d = 17;
        for (int what = 0; what <= 5; what++) d = 31 * d + h.count(what);
        for (int i = 0; i < h.count(0); i++) {
            for (int j = i + 1; j < h.count(0); j++) {
                d = 31 * d + h.ticks(i, j);
                d = 31 * d + h.product(i, j);
            }
        }
        for (int y = 0; y < 16; y++) {
            for (int x = 0; x < 16; x++) d = 31 * d + h.at(x, y);
        }
        return d;
    }

    private static void digestCase(String caseName, Supplier<DishHouse> setUp) {
        test("promise 32 digest: " + caseName, () -> due("digest", setUp.get().digest(), digestOf(setUp.get())));
    }

    private static void digest() {
        digestCase("of a new object", NEW);
        digestCase("of a furnished house, it wraps", HOUSE);
        digestCase("of one dish there is no pair", () -> dishes(1, 5));
        digestCase("of six dishes there are fifteen pairs, by i, then by j", () -> {
            DishHouse h = dishes(6, 10);
            for (int d = 0; d < 6; d++) {
                h.tune(d, d, d + 1);
                fill(h, d, d, 1, 2 * d, 3, d - 5, 6, 1);
            }
            return h;
        });
        digestCase("of a lost one a pair has 0 and 0", () -> {
            DishHouse h = furnished();
            h.lose(0);
            return h;
        });
        digestCase("of a board of great numbers", () -> {
            DishHouse h = dishes(2, 100);
            for (int d = 0; d < 2; d++) {
                fillAll(h, d, 40, 500);
                h.tune(d, 0, 9);
            }
            h.board(0);
            return h;
        });
        test("promise 32 digest: findings, runs and what is refused are not in it", () -> {
            DishHouse h = furnished();
            long was = h.digest();
            h.reel(0, INTS, -1);
            h.night(10);
            h.dish(101, 0);
            due("digest", h.digest(), was);
        });
        test("promise 32 digest: it changes nothing", () -> {
            DishHouse h = furnished();
            due("digest twice", h.digest(), h.digest());
        });
    }
}
