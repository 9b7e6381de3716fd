import java.util.function.Supplier;

/** Promises 16 to 25 and "Terms" of waves, beams, boards, peaks and parts: each boundary case by itself. */
public final class BoardsCases extends Cases {
    private static final Supplier<DishHouse> NEW = DishHouse::new;
    private static final Supplier<DishHouse> HOUSE = Cases::furnished;

    public static void main(String[] args) {
        waves();
        spacings();
        beamEnds();
        pointAccepted();
        pointRefused();
        dark();
        boardOfProducts();
        boardOfPoints();
        boardAnew();
        boardRefused();
        at();
        windowAccepted();
        windowRefused();
        peakTies();
        peakWindow();
        takeShares();
        takeUneven();
        takeEnds();
        takeKeptBeam();
        takeCells();
        takeTwoHundred();
        takeRefused();
        part();
        partRefused();
        back();
        end("BoardsCases");
    }

    private static void wave(int k, int want) {
        answers("terms 2 wave: " + k + " by u x", () -> spaced(1, 0), h -> h.beam(k, 3), want);
        answers("terms 2 wave: " + k + " by v y", () -> spaced(0, 1), h -> h.beam(3, k), want);
    }

    private static void waves() {
        for (int k = 0; k < 16; k++) wave(k, WAVE[k]);
        wave(16, 1000);
        wave(17, 924);
        wave(31, 924);
        wave(20, 0);
        wave(-1, 924);
        wave(-4, 0);
        wave(-5, -383);
        wave(-16, 1000);
        wave(-17, 924);
        wave(-24, -1000);
        answers("terms 2 wave: u x and v y are added", () -> spaced(3, 5), h -> h.beam(1, 2), WAVE[13]);
        answers("terms 2 wave: u x and v y of unlike signs", () -> spaced(3, -5), h -> h.beam(1, 2), WAVE[9]);
        answers("terms 2 wave: u x and v y come to 0", () -> spaced(3, -3), h -> h.beam(5, 5), 1000);
    }

    private static void spacings() {
        answers("terms 2 spacing: two alike places are one, of 0, 0", () -> spaced(0, 0), h -> h.beam(7, 5), 1000);
        answers("terms 2 spacing: u is that of j less that of i", () -> {
            DishHouse h = new DishHouse();
            h.dish(5, 2);
            h.dish(3, 7);
            h.reel(0, BYTES, 1);
            h.reel(1, BYTES, 1);
            return h;
        }, h -> h.beam(1, 1), WAVE[3]);
        answers("terms 2 spacing: one tick makes one, though its product is 0", () -> spaced(1, 0), h -> h.board(0), 1);
        answers("terms 2 spacing: no tick makes none", () -> dishes(2, 0), h -> h.board(0), 0);
        answers("terms 2 spacing: no tick makes no beam", () -> dishes(2, 0), h -> h.beam(0, 0), 0);
        answers("terms 2 spacing: a lost dish makes none", () -> {
            DishHouse h = dishes(3, 1);
            h.lose(1);
            return h;
        }, h -> h.beam(0, 0), 1000);
        answers("terms 2 spacing: a tick that is flagged makes none", () -> {
            DishHouse h = dishes(3, 1);
            h.flag(2, 0, 0);
            return h;
        }, h -> h.beam(0, 0), 1000);
        answers("terms 2 spacing: a delay behind the last item makes none", () -> {
            DishHouse h = dishes(3, 2);
            h.tune(2, 2, 1);
            return h;
        }, h -> h.beam(0, 0), 1000);
        answers("terms 2 spacing: a delay at the last item makes one", () -> {
            DishHouse h = dishes(3, 2);
            h.tune(2, 1, 1);
            return h;
        }, h -> h.beam(0, 0), 3000);
        answers("terms 2 spacing: one dish alone makes none", () -> dishes(1, 5), h -> h.board(0), 0);
        answers("terms 2 spacing: six dishes make fifteen", () -> dishes(6, 1), h -> h.board(0), 15);
        answers("terms 2 spacing: of six dishes each two are in the beam", () -> dishes(6, 1), h -> h.beam(1, 0),
                5 * 924 + 4 * 707 + 3 * 383 + 0 - 383);
    }

    private static void beamEnds() {
        answers("promise 16 beam: 0 without dishes", NEW, h -> h.beam(0, 0), 0);
        answers("promise 16 beam: x -1000 is told", () -> spaced(1, 0), h -> h.beam(-1000, 0), WAVE[8]);
        answers("promise 16 beam: x 1000 is told", () -> spaced(1, 0), h -> h.beam(1000, 0), WAVE[8]);
        answers("promise 16 beam: y -1000 is told", () -> spaced(0, 1), h -> h.beam(0, -1000), WAVE[8]);
        answers("promise 16 beam: y 1000 is told", () -> spaced(0, 1), h -> h.beam(0, 1000), WAVE[8]);
        answers("promise 16 beam: the farthest of all", () -> {
            DishHouse h = new DishHouse();
            h.dish(-100, 100);
            h.dish(99, -99);
            h.reel(0, INTS, 1);
            h.reel(1, INTS, 1);
            return h;
        }, h -> h.beam(-1000, 999), WAVE[Math.floorMod(-199000 - 199 * 999, 16)]);
        refused("promise 16 beam: x -1001 is BAD, the least int", HOUSE, h -> h.beam(-1001, 0), LEAST_INT);
        refused("promise 16 beam: x 1001 is BAD", HOUSE, h -> h.beam(1001, 0), LEAST_INT);
        refused("promise 16 beam: y -1001 is BAD", HOUSE, h -> h.beam(0, -1001), LEAST_INT);
        refused("promise 16 beam: y 1001 is BAD", HOUSE, h -> h.beam(0, 1001), LEAST_INT);
        answers("promise 16 beam: it is that of now, not the kept one", () -> {
            DishHouse h = dishes(3, 1);
            h.board(0);
            h.lose(0);
            return h;
        }, h -> h.beam(0, 0), 1000);
        test("promise 16 beam: it leaves the kept one", () -> {
            DishHouse h = dishes(3, 1);
            h.point(0, 0, 30);
            h.board(1);
            h.lose(0);
            h.beam(0, 0);
            h.take(100, 1);
            due("part(0, 1)", h.part(0, 1), 30);
        });
    }

    /** What one point of this flux makes of its own cell, where the beam is 1000. */
    private static void point(String caseName, int x, int y, int flux) {
        test("promise 17 point: " + caseName, () -> {
            DishHouse h = spaced(1, 3);
            due("point", h.point(x, y, flux), 1);
            h.board(1);
            due("at its cell", h.at(x, y), 1000L * flux);
        });
    }

    private static void pointAccepted() {
        point("x 0 is told", 0, 5, 7);
        point("x 15 is told", 15, 5, 7);
        point("y 0 is told", 5, 0, 7);
        point("y 15 is told", 5, 15, 7);
        point("flux 1000 is told", 5, 5, 1000);
        point("flux -1000 is told", 5, 5, -1000);
        point("flux 0 is told", 5, 5, 0);
        test("promise 17 point: it answers how many, ten at most", () -> {
            DishHouse h = new DishHouse();
            for (int n = 1; n <= 10; n++) due("point", h.point(n, n, n), n);
            due("count(2)", h.count(2), 10);
        });
        test("terms 2 points: the tenth is on the board", () -> {
            DishHouse h = spaced(0, 0);
            for (int n = 1; n <= 10; n++) h.point(n, n, 1);
            h.board(1);
            due("at(0, 0)", h.at(0, 0), 10000);
        });
        test("promise 17 point: two of one cell are two", () -> {
            DishHouse h = spaced(1, 0);
            h.point(3, 3, 5);
            due("point", h.point(3, 3, 6), 2);
            h.board(1);
            due("at(3, 3)", h.at(3, 3), 11000);
        });
        test("promise 17 point: the board stays until it is made anew", () -> {
            DishHouse h = spaced(1, 0);
            h.board(1);
            h.point(3, 3, 5);
            due("at(3, 3)", h.at(3, 3), 0);
        });
    }

    private static DishHouse tenPoints() {
        DishHouse h = furnished();
        for (int n = 3; n <= 10; n++) h.point(n, 15 - n, 9 * n);
        return h;
    }

    private static void pointRefused() {
        refused("promise 17 point: x -1 is BAD", HOUSE, h -> h.point(-1, 0, 1), BAD);
        refused("promise 17 point: x 16 is BAD", HOUSE, h -> h.point(16, 0, 1), BAD);
        refused("promise 17 point: y -1 is BAD", HOUSE, h -> h.point(0, -1, 1), BAD);
        refused("promise 17 point: y 16 is BAD", HOUSE, h -> h.point(0, 16, 1), BAD);
        refused("promise 17 point: flux -1001 is BAD", HOUSE, h -> h.point(0, 0, -1001), BAD);
        refused("promise 17 point: flux 1001 is BAD", HOUSE, h -> h.point(0, 0, 1001), BAD);
        refused("promise 17 point: an eleventh is FULL", BoardsCases::tenPoints, h -> h.point(0, 0, 1000), FULL);
        refused("promise 17 point: an eleventh not as told is BAD ahead of FULL", BoardsCases::tenPoints,
                h -> h.point(0, 16, 1000), BAD);
        answers("promise 17 point: one fits again when it was dark", BoardsCases::tenPoints,
                h -> h.dark() + h.point(0, 0, 1), 11);
    }

    private static void dark() {
        answers("promise 18 dark: where there are none 0", NEW, h -> h.dark(), 0);
        answers("promise 18 dark: where there are ten 10", BoardsCases::tenPoints, h -> h.dark(), 10);
        answers("promise 18 dark: a second time 0", BoardsCases::tenPoints, h -> h.dark() + h.dark(), 10);
        answers("promise 18 dark: none are counted then", BoardsCases::tenPoints, h -> h.dark() + h.count(2), 10);
        test("promise 18 dark: the board stays, the next one has no point", () -> {
            DishHouse h = spaced(1, 0);
            h.point(3, 3, 5);
            h.board(1);
            h.dark();
            due("at(3, 3)", h.at(3, 3), 5000);
            h.board(1);
            due("at(3, 3)", h.at(3, 3), 0);
        });
    }

    /** Three dishes with products of 21, 10 and -12, one spacing along x, one along y, one along both. */
    private static DishHouse corner() {
        DishHouse h = new DishHouse();
        h.dish(0, 0);
        h.dish(1, 0);
        h.dish(1, 3);
        for (int d = 0; d < 3; d++) h.reel(d, INTS, 3);
        fill(h, 0, 7, 2, 0);
        fill(h, 1, 3, 0, 4);
        fill(h, 2, 0, 5, -3);
        return h;
    }

    private static void boardOfProducts() {
        test("promise 19 board: of products, each cell", () -> {
            DishHouse h = corner();
            due("board(0)", h.board(0), 3);
            for (int y = 0; y < 16; y++) {
                for (int x = 0; x < 16; x++) {
                    long want = 21 * WAVE[x] + 10 * WAVE[(x + 3 * y) % 16] - 12 * WAVE[3 * y % 16];
                    due("at(" + x + ", " + y + ")", h.at(x, y), want);
                }
            }
        });
        test("promise 19 board: of products, points do not matter", () -> {
            DishHouse h = corner();
            h.point(0, 0, 1000);
            h.board(0);
            due("at(0, 0)", h.at(0, 0), 19000);
        });
        test("promise 19 board: of products with their delays, gains and flags", () -> {
            DishHouse h = corner();
            h.tune(1, 2, -2);
            h.tune(2, 1, 3);
            h.flag(0, 1, 1);
            due("board(0)", h.board(0), 3);
            for (int x = 0; x < 16; x++) {
                long want = h.product(0, 1) * WAVE[x] + h.product(0, 2) * WAVE[(x + 3) % 16] + h.product(1, 2) * WAVE[3];
                due("at(" + x + ", 1)", h.at(x, 1), want);
            }
            due("product(0, 1)", h.product(0, 1), 7 * 4 * -2);
            due("product(0, 2)", h.product(0, 2), 7 * 5 * 3);
            due("product(1, 2)", h.product(1, 2), 4 * 5 * -6);
        });
        test("promise 19 board: of products above an int", () -> {
            DishHouse h = dishes(2, 100);
            for (int d = 0; d < 2; d++) {
                fillAll(h, d, 100, 500);
                h.tune(d, 0, 9);
            }
            h.board(0);
            due("at(0, 0)", h.at(0, 0), 2025000000000L);
            due("at(8, 0)", h.at(8, 0), -2025000000000L);
        });
        test("promise 19 board: of products without spacings is 0", () -> {
            DishHouse h = new DishHouse();
            due("board(0)", h.board(0), 0);
            due("at(0, 0)", h.at(0, 0), 0);
        });
    }

    private static void boardOfPoints() {
        test("promise 19 board: of points, each cell, the beam wraps on both sides", () -> {
            DishHouse h = corner();
            h.point(15, 0, 3);
            h.point(0, 15, -2);
            h.point(6, 9, 1);
            due("board(1)", h.board(1), 3);
            DishHouse beam = corner();
            for (int y = 0; y < 16; y++) {
                for (int x = 0; x < 16; x += 5) {
                    long want = 3L * beam.beam(x - 15, y) - 2L * beam.beam(x, y - 15) + beam.beam(x - 6, y - 9);
                    due("at(" + x + ", " + y + ")", h.at(x, y), want);
                }
            }
        });
        test("promise 19 board: of points, products do not matter", () -> {
            DishHouse h = corner();
            h.board(1);
            due("at(0, 0)", h.at(0, 0), 0);
        });
        test("promise 19 board: of points without spacings is 0", () -> {
            DishHouse h = dishes(2, 0);
            h.point(3, 3, 9);
            due("board(1)", h.board(1), 0);
            due("at(3, 3)", h.at(3, 3), 0);
        });
        test("terms 2 points: the beam begins anew at the point", () -> {
            DishHouse h = spaced(1, 4);
            h.point(2, 1, 1);
            h.board(1);
            due("at(3, 1)", h.at(3, 1), 924);
            due("at(2, 2)", h.at(2, 2), 0);
            due("at(3, 2)", h.at(3, 2), WAVE[5]);
        });
    }

    private static void boardAnew() {
        test("promise 19 board: there are no parts then, the window is all", () -> {
            DishHouse h = furnished();
            due("count(3)", h.count(3), 3);
            due("count(5)", h.count(5), 11 * 14);
            h.board(1);
            due("count(3)", h.count(3), 0);
            due("count(5)", h.count(5), 256);
            due("back()", h.back(), NOT);
            due("part(0, 0)", h.part(0, 0), LEAST_LONG);
        });
        test("promise 19 board: of products too", () -> {
            DishHouse h = furnished();
            h.board(0);
            due("count(3)", h.count(3), 0);
            due("count(5)", h.count(5), 256);
        });
        test("promise 19 board: the window that is all reaches from the first cell to the last", () -> {
            DishHouse h = spaced(1, 1);
            h.window(3, 3, 4, 4);
            h.board(1);
            due("peak()", h.peak(), 0);
            DishHouse g = dishes(1, 0);
            g.window(3, 3, 4, 4);
            g.board(1);
            due("peak() of nothing", g.peak(), 0);
        });
        test("promise 19 board: nothing of the board before is left", () -> {
            DishHouse h = corner();
            h.point(4, 4, 50);
            h.board(1);
            h.take(30, 5);
            h.dark();
            h.board(1);
            for (int c = 0; c < 256; c++) due("at cell " + c, h.at(c % 16, c / 16), 0);
        });
    }

    private static void boardRefused() {
        refused("promise 19 board: kind -1 is BAD", HOUSE, h -> h.board(-1), BAD);
        refused("promise 19 board: kind 2 is BAD", HOUSE, h -> h.board(2), BAD);
        refused("promise 19 board: kind the least int is BAD", HOUSE, h -> h.board(LEAST_INT), BAD);
    }

    private static void at() {
        Supplier<DishHouse> house = () -> {
            DishHouse h = spaced(1, 5);
            h.point(0, 0, 1);
            h.board(1);
            return h;
        };
        answers("promise 20 at: x 0, y 0", house, h -> h.at(0, 0), 1000);
        answers("promise 20 at: x 15, y 0", house, h -> h.at(15, 0), WAVE[15]);
        answers("promise 20 at: x 0, y 15", house, h -> h.at(0, 15), WAVE[75 % 16]);
        answers("promise 20 at: x 15, y 15", house, h -> h.at(15, 15), WAVE[90 % 16]);
        answers("promise 20 at: x and y are not the other's", house, h -> h.at(2, 1), WAVE[7]);
        refused("promise 20 at: x -1 is BAD, the least long", HOUSE, h -> h.at(-1, 5), LEAST_LONG);
        refused("promise 20 at: x 16 is BAD, not the next row", HOUSE, h -> h.at(16, 5), LEAST_LONG);
        refused("promise 20 at: y -1 is BAD", HOUSE, h -> h.at(5, -1), LEAST_LONG);
        refused("promise 20 at: y 16 is BAD", HOUSE, h -> h.at(5, 16), LEAST_LONG);
    }

    private static void windowAccepted() {
        answers("promise 21 window: all", HOUSE, h -> h.window(0, 0, 15, 15), 256);
        answers("promise 21 window: the first cell alone", HOUSE, h -> h.window(0, 0, 0, 0), 1);
        answers("promise 21 window: the last cell alone", HOUSE, h -> h.window(15, 15, 15, 15), 1);
        answers("promise 21 window: one row", HOUSE, h -> h.window(0, 7, 15, 7), 16);
        answers("promise 21 window: one column", HOUSE, h -> h.window(7, 0, 7, 15), 16);
        answers("promise 21 window: both ends are in it", HOUSE, h -> h.window(2, 3, 4, 8), 18);
        answers("promise 21 window: it is counted", HOUSE, h -> 100 * h.window(2, 3, 4, 8) + h.count(5), 1818);
        answers("promise 21 window: it may grow again", HOUSE, h -> h.window(3, 3, 3, 3) + h.window(2, 2, 4, 4), 10);
        test("promise 21 window: the board and its parts stay", () -> {
            DishHouse h = furnished();
            long was = h.at(3, 4);
            h.window(0, 0, 0, 0);
            due("at(3, 4)", h.at(3, 4), was);
            due("count(3)", h.count(3), 3);
        });
    }

    private static void windowRefused() {
        refused("promise 21 window: x0 -1 is BAD", HOUSE, h -> h.window(-1, 0, 5, 5), BAD);
        refused("promise 21 window: y0 -1 is BAD", HOUSE, h -> h.window(0, -1, 5, 5), BAD);
        refused("promise 21 window: x1 16 is BAD", HOUSE, h -> h.window(0, 0, 16, 5), BAD);
        refused("promise 21 window: y1 16 is BAD", HOUSE, h -> h.window(0, 0, 5, 16), BAD);
        refused("promise 21 window: x0 above x1 is BAD", HOUSE, h -> h.window(6, 0, 5, 5), BAD);
        refused("promise 21 window: y0 above y1 is BAD", HOUSE, h -> h.window(0, 6, 5, 5), BAD);
        refused("promise 21 window: x0 and x1 16 are BAD", HOUSE, h -> h.window(16, 0, 16, 5), BAD);
        refused("promise 21 window: y0 and y1 16 are BAD", HOUSE, h -> h.window(0, 16, 5, 16), BAD);
        refused("promise 21 window: x0 and x1 -1 are BAD", HOUSE, h -> h.window(-1, 0, -1, 5), BAD);
        refused("promise 21 window: y0 and y1 -1 are BAD", HOUSE, h -> h.window(0, -1, 5, -1), BAD);
        refused("promise 21 window: x1 the least int is BAD", HOUSE, h -> h.window(0, 0, LEAST_INT, 5), BAD);
        refused("promise 21 window: y1 the greatest int is BAD", HOUSE, h -> h.window(0, 0, 5, MOST_INT), BAD);
    }

    /** A board of one point with one spacing. */
    private static DishHouse sky(int u, int v, int x, int y, int flux) {
        DishHouse h = spaced(u, v);
        h.point(x, y, flux);
        h.board(1);
        return h;
    }

    private static void peakTies() {
        answers("promise 22 peak: of nothing cell 0", () -> dishes(2, 1), h -> h.peak(), 0);
        answers("promise 22 peak: 16 y and x", () -> {
            DishHouse h = sky(1, 3, 6, 4, 9);
            h.window(5, 4, 7, 4);
            return h;
        }, h -> h.peak(), 16 * 4 + 6);
        answers("promise 22 peak: of like ones the least x", () -> sky(1, 0, 5, 0, 9), h -> h.peak(), 5);
        answers("promise 22 peak: one below 0 is as great by its amount, and comes ahead by x",
                () -> sky(1, 0, 9, 0, 9), h -> h.peak(), 1);
        answers("promise 22 peak: one below 0 comes not ahead of one above 0 at less x",
                () -> sky(1, 0, 5, 0, -9), h -> h.peak(), 5);
        answers("promise 22 peak: of like ones the least y", () -> sky(0, 1, 0, 5, 9), h -> h.peak(), 16 * 5);
        answers("promise 22 peak: the least y ahead of the least x", () -> sky(1, 1, 8, 1, 9), h -> h.peak(), 1);
        answers("promise 22 peak: the least y ahead of the least x, in a window", () -> {
            DishHouse h = sky(1, 1, 5, 2, 9);
            h.window(4, 1, 7, 7);
            return h;
        }, h -> h.peak(), 16 * 1 + 6);
        answers("promise 22 peak: the greatest is below 0", () -> {
            DishHouse h = sky(1, 0, 5, 0, -9);
            h.window(2, 0, 8, 15);
            return h;
        }, h -> h.peak(), 5);
        answers("promise 22 peak: the greater amount comes ahead of one at less x", () -> {
            DishHouse h = sky(8, 0, 5, 0, 9);
            h.dish(0, 0);
            h.reel(2, INTS, 1);
            h.point(5, 9, 0);
            h.board(1);
            return h;
        }, h -> h.peak(), 1);
    }

    private static void peakWindow() {
        answers("terms 2 window: its first cell is in it", () -> windowed(5, 3, 7, 8, 5, 3), h -> h.peak(), 16 * 3 + 5);
        answers("terms 2 window: its last cell is in it", () -> windowed(2, 1, 5, 3, 5, 3), h -> h.peak(), 16 * 3 + 5);
        answers("terms 2 window: its last column is in it", () -> windowed(4, 2, 5, 4, 5, 3), h -> h.peak(), 16 * 3 + 5);
        answers("terms 2 window: its last row is in it", () -> windowed(4, 2, 6, 3, 5, 3), h -> h.peak(), 16 * 3 + 5);
        answers("terms 2 window: the column ahead of it is not", () -> windowed(6, 3, 7, 3, 5, 3), h -> h.peak(), 54);
        answers("terms 2 window: the column behind it is not", () -> windowed(3, 3, 4, 3, 5, 3), h -> h.peak(), 52);
        answers("terms 2 window: the row ahead of it is not", () -> windowed(5, 4, 5, 5, 5, 3), h -> h.peak(), 69);
        answers("terms 2 window: the row behind it is not", () -> windowed(5, 1, 5, 2, 5, 3), h -> h.peak(), 37);
        answers("terms 2 window: one cell is the peak, be it 0", () -> windowed(9, 9, 9, 9, 5, 3), h -> h.peak(), 153);
    }

    /** A board with a point at a cell, steeper along x than along y, and a window. */
    private static DishHouse windowed(int x0, int y0, int x1, int y1, int x, int y) {
        DishHouse h = corner();
        h.point(x, y, 10);
        h.board(1);
        h.window(x0, y0, x1, y1);
        return h;
    }

    private static void share(String caseName, int flux, int share, int want) {
        test("promise 23 take: " + caseName, () -> {
            DishHouse h = sky(1, 0, 3, 0, flux);
            h.window(3, 0, 3, 0);
            due("take", h.take(share, 1), want == 0 ? 0 : 1);
            due("at(3, 0)", h.at(3, 0), 1000L * (flux - want));
            due("at(3, 9)", h.at(3, 9), 1000L * (flux - want));
            due("at(4, 0)", h.at(4, 0), 924L * (flux - want));
            if (want != 0) due("part(0, 1)", h.part(0, 1), want);
        });
    }

    private static void takeShares() {
        share("a share of 100 takes it all", 7, 100, 7);
        share("a share of 1 of 100 is 1", 100, 1, 1);
        share("a share of 1 of 99 is 0 and takes nothing", 99, 1, 0);
        share("a share of 1 of -100 is -1", -100, 1, -1);
        share("a share of 1 of -99 is cut toward 0 and takes nothing", -99, 1, 0);
        share("a share of 1 of 199 is cut to 1", 199, 1, 1);
        share("a share of 50 of 7 is cut to 3", 7, 50, 3);
        share("a share of 50 of -7 is cut toward 0, to -3", -7, 50, -3);
        share("a share of 99 of 1 takes nothing", 1, 99, 0);
        share("a share of 99 of 1000 is 990", 1000, 99, 990);
        answers("promise 23 take: the share is of the board by all spacings", () -> {
            DishHouse h = corner();
            h.point(0, 0, 10);
            h.board(1);
            return h;
        }, h -> h.take(100, 1) * 100 + h.part(0, 1), 110);
    }

    /** At cell 1 of this board stand 9240, with a kept beam of 1000. */
    private static DishHouse unevenSky(int sign) {
        DishHouse h = spaced(1, 0);
        fill(h, 0, 10 * sign);
        fill(h, 1, 1);
        h.board(0);
        h.window(1, 0, 1, 0);
        return h;
    }

    private static void takeUneven() {
        answers("promise 23 take: cut once, after the share: 99 of 9.24 is 9", () -> unevenSky(1),
                h -> h.take(99, 1) * 100 + h.part(0, 1), 109);
        answers("promise 23 take: cut once, after the share: 99 of -9.24 is -9", () -> unevenSky(-1),
                h -> h.take(99, 1) * 100 + h.part(0, 1), 91);
        answers("promise 23 take: 10 of 9.24 is 0, nothing is taken", () -> unevenSky(1), h -> h.take(10, 1), 0);
        answers("promise 23 take: 11 of 9.24 is 1", () -> unevenSky(1), h -> h.take(11, 1) * 100 + h.part(0, 1), 101);
        answers("promise 23 take: what is left at the peak may be a part of the beam", () -> unevenSky(1),
                h -> h.take(100, 50) * 1000 + h.at(1, 0), 1240);
    }

    private static void takeEnds() {
        answers("promise 23 take: 1 time is told", () -> sky(1, 0, 0, 0, 1000), h -> h.take(10, 1), 1);
        answers("promise 23 take: 2 times", () -> sky(1, 0, 0, 0, 1000), h -> h.take(10, 2), 2);
        answers("promise 23 take: 49 times", () -> sky(1, 0, 0, 0, 1000), h -> h.take(1, 49), 49);
        answers("promise 23 take: 50 times are told", () -> sky(1, 0, 0, 0, 1000), h -> h.take(1, 50), 50);
        answers("promise 23 take: it answers all parts, not those of this time", () -> sky(1, 0, 0, 0, 1000),
                h -> 100 * h.take(1, 30) + h.take(1, 5), 3035);
        test("promise 23 take: it ends where A is 0", () -> {
            DishHouse h = sky(1, 0, 0, 0, 7);
            due("take(50, 50)", h.take(50, 50), 3);
            due("the first", h.part(0, 1), 3);
            due("the second", h.part(1, 1), 2);
            due("the third", h.part(2, 1), 1);
            due("what is left", h.at(0, 0), 1000);
            due("once more", h.take(50, 50), 3);
            due("what is left", h.at(0, 0), 1000);
        });
        answers("promise 23 take: from a board of 0 nothing", () -> spaced(1, 0), h -> h.board(1) + h.take(100, 50), 1);
        test("promise 23 take: it looks for the peak each time anew", () -> {
            DishHouse h = dishes(6, 1);
            h.point(3, 0, 100);
            h.point(10, 0, 70);
            h.board(1);
            h.take(100, 2);
            due("part(0, 0)", h.part(0, 0), 3);
            due("part(1, 0)", h.part(1, 0), 10);
        });
        answers("promise 23 take: the window alone is looked at", () -> {
            DishHouse h = sky(1, 0, 3, 0, 1000);
            h.window(5, 2, 9, 9);
            return h;
        }, h -> h.take(10, 1) + 1000 * h.part(0, 0), 37001);
    }

    private static void takeKeptBeam() {
        test("terms 2 kept beam: it is that of the board, whatever becomes of the dishes", () -> {
            DishHouse h = sky(1, 0, 3, 0, 50);
            h.dish(7, 7);
            h.reel(2, INTS, 1);
            due("take", h.take(100, 1), 1);
            due("part(0, 1)", h.part(0, 1), 50);
            due("at(3, 0)", h.at(3, 0), 0);
            due("at(4, 3)", h.at(4, 3), 0);
        });
        test("terms 2 kept beam: it stays though all reels are lost", () -> {
            DishHouse h = sky(1, 0, 3, 0, 50);
            h.lose(0);
            h.lose(1);
            due("take", h.take(100, 1), 1);
            due("at(3, 0)", h.at(3, 0), 0);
        });
        test("terms 2 kept beam: a board without spacings has one of 0, nothing is taken", () -> {
            DishHouse h = sky(1, 0, 3, 0, 50);
            h.lose(0);
            h.board(1);
            h.reel(0, INTS, 1);
            due("take", h.take(100, 50), 0);
            due("at(3, 0)", h.at(3, 0), 0);
        });
        test("terms 2 kept beam: a board of products keeps it too", () -> {
            DishHouse h = corner();
            h.board(0);
            h.lose(0);
            h.window(0, 0, 0, 0);
            due("take", h.take(100, 1), 1);
            due("part(0, 1)", h.part(0, 1), 19000 / 3000);
            due("at(0, 0)", h.at(0, 0), 1000);
        });
    }

    private static void takeCells() {
        test("promise 23 take: from each cell, on both sides of the peak", () -> {
            DishHouse h = corner();
            h.point(6, 9, 100);
            h.board(1);
            h.window(6, 9, 6, 9);
            due("take(40, 1)", h.take(40, 1), 1);
            due("part(0, 0)", h.part(0, 0), 16 * 9 + 6);
            due("part(0, 1)", h.part(0, 1), 40);
            DishHouse left = corner();
            left.point(6, 9, 60);
            left.board(1);
            for (int c = 0; c < 256; c++) due("at cell " + c, h.at(c % 16, c / 16), left.at(c % 16, c / 16));
        });
        test("promise 23 take: a peak below 0 is taken off too", () -> {
            DishHouse h = sky(1, 3, 6, 9, -100);
            h.window(6, 9, 6, 9);
            due("take(100, 1)", h.take(100, 1), 1);
            for (int c = 0; c < 256; c++) due("at cell " + c, h.at(c % 16, c / 16), 0);
        });
        test("promise 23 take: a peak at the last cell wraps to the first", () -> {
            DishHouse h = sky(1, 3, 15, 15, 100);
            h.window(15, 15, 15, 15);
            due("take(100, 1)", h.take(100, 1), 1);
            for (int c = 0; c < 256; c++) due("at cell " + c, h.at(c % 16, c / 16), 0);
        });
    }

    /** So many parts of a board that lasts for more than all; the finding is NULL. */
    private static DishHouse parts(int many) {
        DishHouse h = dishes(6, 20);
        h.reel(5, INTS, 3);
        for (int d = 0; d < 5; d++) {
            h.tune(d, 0, 9);
            fillAll(h, d, 20, 500);
        }
        h.board(0);
        h.lose(5);
        h.lose(5);
        for (int n = 0; n < many; n += 50) h.take(1, Math.min(50, many - n));
        due("count(3)", h.count(3), many);
        return h;
    }

    private static void takeTwoHundred() {
        answers("terms 2 parts: the two hundredth is one", () -> parts(199), h -> h.take(1, 1), 200);
        answers("promise 23 take: it ends at 200", () -> parts(199), h -> h.take(1, 50), 200);
        answers("promise 23 take: it ends at 200, from farther away", () -> parts(170), h -> h.take(1, 50), 200);
        answers("promise 23 take: just to 200", () -> parts(150), h -> h.take(1, 50), 200);
        test("promise 23 take: what ends at 200 has taken no more off", () -> {
            DishHouse h = parts(199);
            DishHouse twin = parts(199);
            h.take(1, 50);
            twin.take(1, 1);
            due("digest", h.digest(), twin.digest());
        });
        refused("promise 23 take: FULL where 200 are there", () -> parts(200), h -> h.take(1, 1), FULL);
        refused("promise 23 take: FULL where 200 are there, though A would be 0", () -> {
            DishHouse h = parts(200);
            h.window(4, 0, 4, 0);
            return h;
        }, h -> h.take(1, 1), FULL);
        refused("promise 23 take: BAD of the share ahead of FULL", () -> parts(200), h -> h.take(0, 1), BAD);
        refused("promise 23 take: BAD of the times ahead of FULL", () -> parts(200), h -> h.take(1, 51), BAD);
        answers("promise 23 take: with one put back there is room again", () -> parts(200),
                h -> 1000 * h.back() + h.take(1, 1), 199200);
        answers("promise 23 take: a new board has room again", () -> parts(200), h -> h.board(0) * h.take(1, 1), 10);
    }

    private static void takeRefused() {
        refused("promise 23 take: share 0 is BAD", HOUSE, h -> h.take(0, 5), BAD);
        refused("promise 23 take: share -1 is BAD", HOUSE, h -> h.take(-1, 5), BAD);
        refused("promise 23 take: share 101 is BAD", HOUSE, h -> h.take(101, 5), BAD);
        refused("promise 23 take: 0 times are BAD", HOUSE, h -> h.take(5, 0), BAD);
        refused("promise 23 take: -1 times are BAD", HOUSE, h -> h.take(5, -1), BAD);
        refused("promise 23 take: 51 times are BAD", HOUSE, h -> h.take(5, 51), BAD);
        refused("promise 23 take: BAD also where nothing could be taken", () -> spaced(1, 0), h -> h.take(101, 5), BAD);
    }

    private static void part() {
        answers("promise 24 part: 0 is the first", () -> parts(200), h -> h.part(0, 0), 0);
        answers("promise 24 part: its A", () -> parts(200), h -> h.part(0, 1), 81 * 20 * 250000 / 100 * 10 / 15);
        answers("promise 24 part: 199 of 200 is the last", () -> parts(200), h -> h.part(199, 1) > 0 ? 1 : 0, 1);
        test("promise 24 part: its cell is 16 y and x, its A has its sign", () -> {
            DishHouse h = sky(1, 1, 3, 2, -7);
            h.window(3, 2, 15, 15);
            h.take(100, 1);
            due("part(0, 0)", h.part(0, 0), 35);
            due("part(0, 1)", h.part(0, 1), -7);
        });
        test("promise 24 part: each its own", () -> {
            DishHouse h = sky(1, 0, 0, 0, 7);
            h.take(50, 3);
            due("part(0, 1)", h.part(0, 1), 3);
            due("part(1, 1)", h.part(1, 1), 2);
            due("part(2, 1)", h.part(2, 1), 1);
        });
    }

    private static void partRefused() {
        refused("promise 24 part: k -1 is BAD, the least long", HOUSE, h -> h.part(-1, 0), LEAST_LONG);
        refused("promise 24 part: k behind the last is BAD", HOUSE, h -> h.part(3, 0), LEAST_LONG);
        refused("promise 24 part: k 200 of 200 is BAD", () -> parts(200), h -> h.part(200, 0), LEAST_LONG);
        refused("promise 24 part: what -1 is BAD", HOUSE, h -> h.part(0, -1), LEAST_LONG);
        refused("promise 24 part: what 2 is BAD", HOUSE, h -> h.part(0, 2), LEAST_LONG);
        answers("promise 24 part: where there are none k 0 is BAD", NEW, h -> h.part(0, 1), LEAST_LONG);
        answers("promise 24 part: one put back is BAD", () -> {
            DishHouse h = furnished();
            h.back();
            return h;
        }, h -> h.part(2, 1), LEAST_LONG);
    }

    private static void back() {
        refused("promise 25 back: NOT where there is none", () -> spaced(1, 0), h -> h.back(), NOT);
        refused("promise 25 back: NOT where all are put back", () -> {
            DishHouse h = sky(1, 0, 3, 0, 50);
            h.take(100, 1);
            h.back();
            return h;
        }, h -> h.back(), NOT);
        answers("promise 25 back: the last one leaves 0", () -> {
            DishHouse h = sky(1, 0, 3, 0, 50);
            h.take(100, 1);
            return h;
        }, h -> h.back(), 0);
        answers("promise 25 back: of 200 there are 199 left", () -> parts(200), h -> h.back(), 199);
        test("promise 25 back: the latest goes first", () -> {
            DishHouse h = sky(1, 0, 0, 0, 7);
            h.take(50, 3);
            due("back()", h.back(), 2);
            due("at(0, 0)", h.at(0, 0), 2000);
            due("back()", h.back(), 1);
            due("at(0, 0)", h.at(0, 0), 4000);
            due("back()", h.back(), 0);
            due("at(0, 0)", h.at(0, 0), 7000);
        });
        test("promise 25 back: nothing is lost, at no cell, whatever the window and the dishes are", () -> {
            DishHouse h = corner();
            h.point(6, 9, 100);
            h.point(1, 14, -77);
            h.board(1);
            DishHouse twin = corner();
            twin.point(6, 9, 100);
            twin.point(1, 14, -77);
            twin.board(1);
            h.take(37, 4);
            h.lose(0);
            h.window(2, 2, 2, 2);
            for (int left = 3; left >= 0; left--) due("back()", h.back(), left);
            for (int c = 0; c < 200; c++) due("at cell " + c, h.at(c % 16, c / 16), twin.at(c % 16, c / 16));
            h.reel(0, INTS, 3);
            fill(h, 0, 7, 2, 0);
            h.window(0, 0, 15, 15);
            due("digest", h.digest(), twin.digest());
        });
        test("promise 25 back: a share that was cut is put back as it was taken", () -> {
            DishHouse h = sky(1, 0, 0, 0, -7);
            h.take(50, 1);
            due("at(0, 0)", h.at(0, 0), -4000);
            h.back();
            due("at(0, 0)", h.at(0, 0), -7000);
        });
    }
}
