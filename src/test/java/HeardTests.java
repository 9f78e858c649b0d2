/** Promises 23 to 33: what is heard, rests, chances, years, images. */
final class HeardTests {
    static void run() {
        Check.test("promise 23: seen", HeardTests::seen);
        Check.test("promise 24: forget", HeardTests::forget);
        Check.test("promise 25: leak", HeardTests::leak);
        Check.test("promise 26: borer", HeardTests::borer);
        Check.test("promise 27: listen", HeardTests::listen);
        Check.test("promise 28: rests", HeardTests::rests);
        Check.test("promise 28: rests refuses", HeardTests::restsRefuses);
        Check.test("promise 29: frost", HeardTests::frost);
        Check.test("promise 29: frost refuses", HeardTests::frostRefuses);
        Check.test("promise 30: year", HeardTests::year);
        Check.test("promises 31, 32: image, restore", HeardTests::images);
        Check.test("promise 33: told", HeardTests::told);
        Check.test("the constants", HeardTests::constants);
    }

    private static void seen() {
        SpringFarms x = Told.farms(3);
        Check.due("seen(3, 0)", x.seen(3, 0), -1);
        Check.due("seen(-1, 10)", x.seen(-1, 10), -1);
        Check.due("seen(0, 10)", x.seen(0, 10), -2);
        Check.due("seen(0, -1)", x.seen(0, -1), -2);
        Check.due("told(6)", x.told(6), 0);
        for (int k = 1; k <= 8; k++) {
            Check.due("seen(2, 9)", x.seen(2, k % 2 * 9), k);
        }
        Check.due("seen(0, 0), full", x.seen(0, 0), -4);
        Check.due("seen(0, 10), full", x.seen(0, 10), -2);
        Check.due("seen(3, 0), full", x.seen(3, 0), -1);
        Check.due("told(6)", x.told(6), 8);
    }

    private static void forget() {
        SpringFarms x = Told.farms(2);
        Check.due("forget()", x.forget(), 0);
        x.seen(0, 9);
        x.seen(0, 8);
        Check.due("leak(-1)", x.leak(-1), 0);
        Check.due("forget()", x.forget(), 2);
        Check.due("leak(-1)", x.leak(-1), 18);
        Check.due("told(6)", x.told(6), 0);
        Check.due("forget()", x.forget(), 0);
        Check.due("seen(1, 1)", x.seen(1, 1), 1);
        Check.due("leak(-1)", x.leak(-1), 18);
    }

    /** Ten pails come: the first takes two, the second what stands above five. */
    private static SpringFarms two() {
        SpringFarms x = Told.farms(2);
        x.set(0, 10);
        Told.hole(x, 0, 0, 2);
        Told.hole(x, 1, 5, 9);
        return x;
    }

    private static void leak() {
        SpringFarms x = two();
        Check.due("leak(-1), no sights", x.leak(-1), 18);
        Check.due("leak(0)", x.leak(0), 1);
        Check.due("leak(9)", x.leak(9), 11);
        Check.due("leak(17)", x.leak(17), 19);
        Check.due("leak(18)", x.leak(18), -6);
        String was = Told.of(x);
        x.seen(1, 1);
        Check.due("leak(-1)", x.leak(-1), 2);
        Check.due("leak(0)", x.leak(0), 2);
        Check.due("leak(1)", x.leak(1), 12);
        Check.due("leak(2)", x.leak(2), -6);
        Check.due("leak(-2)", x.leak(-2), -6);
        Check.due("leak(least)", x.leak(Integer.MIN_VALUE), -6);
        Check.due("leak(most)", x.leak(Integer.MAX_VALUE), -6);
        x.seen(0, 2);
        Check.due("leak(-1)", x.leak(-1), 2);
        x.seen(0, 1);
        Check.due("leak(-1), one took both", x.leak(-1), 0);
        Check.due("leak(0)", x.leak(0), -6);
        x.forget();
        Check.holds("nothing is changed", Told.of(x).equals(was));
        x.set(0, 18);
        x.farm(0, 5, 8);
        x.seen(1, 1);
        Check.due("leak(-1), 9 in all at most", x.leak(-1), 1);
        Check.due("leak(0)", x.leak(0), 12);
        x.farm(1, 5, 9);
        x.forget();
        Check.due("leak(-1), only one more", x.leak(-1), 1);
        Check.due("leak(0)", x.leak(0), 1);
    }

    private static void borer() {
        SpringFarms x = Told.farms(2);
        x.set(0, 10);
        Told.hole(x, 0, 7, 9);
        Told.hole(x, 1, 5, 9);
        String was = Told.of(x);
        Check.due("borer(-1), no sights", x.borer(-1), 12);
        Check.due("borer(6)", x.borer(6), 6);
        Check.due("borer(7)", x.borer(7), 100);
        Check.due("borer(11)", x.borer(11), 104);
        Check.due("borer(12)", x.borer(12), -6);
        x.seen(1, 0);
        Check.due("borer(-1)", x.borer(-1), 6);
        for (int i = 0; i < 6; i++) {
            Check.due("borer(" + i + ")", x.borer(i), i);
        }
        Check.due("borer(6)", x.borer(6), -6);
        Check.due("borer(-2)", x.borer(-2), -6);
        x.forget();
        x.seen(1, 3);
        Check.due("borer(-1)", x.borer(-1), 1);
        Check.due("borer(0)", x.borer(0), 104);
        x.seen(0, 4);
        Check.due("borer(-1)", x.borer(-1), 0);
        Check.due("borer(0)", x.borer(0), -6);
        x.forget();
        x.seen(1, 2);
        Check.due("borer(-1), as all is now", x.borer(-1), 0);
        x.forget();
        Check.holds("nothing is changed", Told.of(x).equals(was));
        SpringFarms y = new SpringFarms();
        Check.due("borer(-1)", y.borer(-1), 0);
        for (int f = 0; f < 9; f++) {
            y.farm(f, 0, 50);
        }
        Check.due("borer(-1)", y.borer(-1), 450);
        Check.due("borer(449)", y.borer(449), 849);
    }

    private static void listen() {
        SpringFarms x = two();
        Check.due("listen(0)", x.listen(0), 1);
        Check.due("listen(1)", x.listen(1), 14);
        x.seen(1, 1);
        Check.due("listen(0), the first of two", x.listen(0), 0);
        Check.due("listen(1)", x.listen(1), 2);
        Check.due("listen(2)", x.listen(2), -2);
        Check.due("listen(-1)", x.listen(-1), -2);
        x.seen(1, 0);
        Check.due("listen(0), no twos", x.listen(0), -6);
        Check.due("listen(1)", x.listen(1), -6);
        Check.due("listen(2)", x.listen(2), -2);
        x.forget();
        // Of all 27 twos (90 pails come) nobody takes less: whoever is listened at, 27 are left.
        SpringFarms y = Told.farms(3);
        y.set(0, 90);
        Check.due("listen(0)", y.listen(0), 0);
        Check.due("listen(1)", y.listen(1), 27);
        Told.hole(y, 2, 50, 9);
        y.set(0, 61);
        // The third log's level is 59 less the leak: it takes 9 less the leak, thrice each.
        Check.due("listen(0)", y.listen(0), 2);
        Check.due("listen(1)", y.listen(1), 3);
        SpringFarms z = new SpringFarms();
        z.set(0, 0);
        Check.due("listen(0) of nine", z.listen(0), 0);
        Check.due("listen(1) of nine", z.listen(1), 81);
        z.farms(1);
        Check.due("listen(1) of one", z.listen(1), 9);
        Check.due("listen(1) again", z.listen(1), 9);
    }

    private static void rests() {
        SpringFarms x = Told.farms(4);
        String was = Told.of(x);
        Check.due("rests(1, -1)", x.rests(1, -1), 1);
        Check.due("rests(1, 0)", x.rests(1, 0), 4);
        Check.due("rests(1, 1)", x.rests(1, 1), -6);
        Check.due("rests(1, -2)", x.rests(1, -2), -6);
        Check.due("rests(14, 0)", x.rests(14, 0), 444);
        x.set(0, 6);
        Check.due("rests(15, 0)", x.rests(15, 0), -4);
        Check.due("rests(14, 0), one keeps its width", x.rests(14, 0), 410);
        Check.due("rests(3, 0)", x.rests(3, 0), 42);
        Check.due("rests(10, 0)", x.rests(10, 0), 40);
        Check.due("rests(12, 0)", x.rests(12, 0), 40);
        x.set(0, 1);
        Check.due("rests(7, 0)", x.rests(7, 0), 100);
        x.set(0, 2);
        Check.due("rests(1, 0)", x.rests(1, 0), 2);
        Check.due("rests(8, 0)", x.rests(8, 0), 0);
        Check.due("rests(8, -1)", x.rests(8, -1), 1);
        x.farm(0, 4, 1);
        x.set(0, 20);
        Check.due("rests(5, 0), one plugged", x.rests(5, 0), 4);
        x.farm(0, 4, 0);
        Check.holds("nothing is changed", Told.of(x).equals(was));
    }

    private static void restsRefuses() {
        SpringFarms x = Told.farms(4);
        for (int set : new int[] {0, 16, 17, -1, 31, Integer.MIN_VALUE, Integer.MAX_VALUE, 256}) {
            Check.due("rests(" + set + ", -1)", x.rests(set, -1), -2);
        }
        Check.due("rests(15, -1)", x.rests(15, -1), -4);
        Check.due("rests(15, -2)", x.rests(15, -2), -4);
        SpringFarms y = new SpringFarms();
        Check.due("rests(511, 0)", y.rests(511, 0), -4);
        Check.due("rests(512, 0)", y.rests(512, 0), -2);
        Check.due("rests(448, 0)", y.rests(448, 0), 444);
    }

    private static void frost(SpringFarms x, int[] call, long upper, long lower) {
        String name = "frost(" + Told.list(call) + ")";
        Check.due(name + " upper", x.frost(call[0], call[1], call[2], call[3], 0), upper);
        Check.due(name + " lower", x.frost(call[0], call[1], call[2], call[3], 1), lower);
    }

    private static void frost() {
        SpringFarms x = Told.farms(1);
        x.farm(0, 1, 3);
        x.farm(0, 3, 1);
        x.farm(0, 6, 50);
        frost(x, new int[] {0, 3, 5, 2}, 3, 4);
        frost(x, new int[] {0, 4, 5, 2}, 1, 4);
        frost(x, new int[] {0, 6, 5, 2}, 1, 4);
        frost(x, new int[] {0, 7, 5, 2}, 0, 1);
        frost(x, new int[] {0, 0, 5, 2}, 1, 1);
        frost(x, new int[] {0, 6, 0, 2}, 1, 1);
        frost(x, new int[] {0, 1, 10, 12}, 0, 1);
        frost(x, new int[] {0, 0, 3, 0}, 1, 1);
        frost(x, new int[] {0, 1, 3, 0}, 0, 1);
        frost(x, new int[] {0, 6, 3, 3}, 98, 125);
        frost(x, new int[] {0, 36, 9, 12}, 1, 1000000000000L);
        frost(x, new int[] {0, 36, 3, 12}, 13841287201L, 1000000000000L);
        frost(x, new int[] {0, 99, 3, 12}, 0, 1);
        SpringFarms y = Told.farms(2);
        y.set(0, 10);
        Told.hole(y, 0, 0, 9);
        Told.hole(y, 1, 0, 5);
        y.farm(0, 3, 1);
        frost(y, new int[] {1, 6, 1, 2}, 19, 100);
        frost(y, new int[] {1, 2, 1, 2}, 1, 1);
        frost(y, new int[] {1, 10, 1, 2}, 1, 100);
        Check.due("told(5)", y.told(5), 0);
    }

    private static void frostRefuses() {
        SpringFarms x = Told.farms(2);
        long unknown = -1000000000000000001L;
        long outside = -1000000000000000002L;
        Check.due("frost(2, ..)", x.frost(2, 0, 0, 0, 0), unknown);
        Check.due("frost(-1, ..)", x.frost(-1, -1, -1, -1, -1), unknown);
        int[][] wrong = {{-1, 0, 0, 0}, {100, 0, 0, 0}, {0, -1, 0, 0}, {0, 11, 0, 0}, {0, 0, -1, 0}, {0, 0, 13, 0},
            {0, 0, 0, -1}, {0, 0, 0, 2}};
        for (int[] call : wrong) {
            Check.due("frost(0, " + Told.list(call) + ")", x.frost(0, call[0], call[1], call[2], call[3]), outside);
        }
        Check.due("frost(1, 99, 10, 12, 1)", x.frost(1, 99, 10, 12, 1), 1);
    }

    private static void year(SpringFarms x, int seed, int m, int pails, int left, int poor) {
        String call = "year(" + seed + ", " + m + ", ";
        Check.due(call + "0)", x.year(seed, m, 0), pails);
        Check.due(call + "1)", x.year(seed, m, 1), left);
        Check.due(call + "2)", x.year(seed, m, 2), poor);
    }

    private static void year() {
        SpringFarms x = Told.farms(1);
        x.farm(0, 1, 3);
        x.farm(0, 3, 1);
        Told.pad(x, ".");
        x.done();
        String was = Told.of(x);
        // By 0 the draws are 74, 5624 (plain), 28652 (wet), 51790 (frosty), 17641 (wet); by 2622: 113 (noon).
        year(x, 0, 1, 3, 17, 0);
        year(x, 0, 2, 6, 34, 0);
        year(x, 0, 3, 9, 34 + 27, 0);
        year(x, 0, 4, 9, 34 + 27 + 20, 1);
        year(x, 0, 5, 12, 34 + 27 + 20 + 27, 1);
        year(x, 2622, 1, 3, 12, 0);
        Check.holds("nothing is done", Told.of(x).equals(was));
        x.farm(0, 4, 1);
        year(x, 0, 1, 0, 20, 1);
        for (int[] call : new int[][] {{-1, 1, 0}, {10000, 1, 0}, {0, 0, 0}, {0, 100, 0}, {0, 1, -1}, {0, 1, 3}}) {
            Check.due("year(" + Told.list(call) + ")", x.year(call[0], call[1], call[2]), -2);
        }
        Check.due("year(9999, 99, 2)", x.year(9999, 99, 2), 99);
        SpringFarms y = Told.farms(2);
        y.farm(1, 1, 0);
        year(y, 0, 2, 2, 38, 2);
        SpringFarms z = new SpringFarms();
        year(z, 0, 2, 18, 22, 0);
        z.farms(2);
        year(z, 0, 2, 4, 36, 0);
    }

    private static void images() {
        SpringFarms x = Told.three();
        Check.due("restore(0)", x.restore(0), -3);
        Check.due("image(2)", x.image(2), -2);
        Check.due("image(-1)", x.image(-1), -2);
        Check.due("restore(2)", x.restore(2), -2);
        Check.due("restore(-1)", x.restore(-1), -2);
        Check.due("image(0)", x.image(0), 1);
        Check.due("restore(1)", x.restore(1), -3);
        Told.pad(x, "..");
        x.done();
        x.set(0, 31);
        x.set(1, 32);
        x.set(2, 33);
        x.seen(1, 4);
        String was = Told.of(x);
        int leaks = x.leak(-1);
        Check.due("image(1)", x.image(1), 1);
        Check.due("restore(0)", x.restore(0), 1);
        Check.holds("as it was at first", Told.of(x).equals(Told.of(Told.three())));
        x.farms(5);
        Told.pad(x, "A!");
        Check.due("restore(1)", x.restore(1), 1);
        Check.due("wipe(), the pad stays", x.wipe(), 2);
        Check.holds("as it was then", Told.of(x).equals(was));
        Check.due("leak(-1)", x.leak(-1), leaks);
        x.farm(0, 2, 77);
        Check.due("restore(1) again", x.restore(1), 1);
        Check.holds("an image is not changed by what comes later", Told.of(x).equals(was));
        x.farm(0, 2, 77);
        Check.due("image(0) anew", x.image(0), 1);
        x.farms(1);
        Check.due("restore(0)", x.restore(0), 1);
        Check.due("told(12)", x.told(12), 77);
        sightsInImages();
    }

    private static void sightsInImages() {
        SpringFarms x = two();
        x.seen(1, 1);
        x.image(0);
        x.forget();
        x.seen(0, 9);
        Check.due("leak(-1)", x.leak(-1), 0);
        x.restore(0);
        Check.due("leak(-1)", x.leak(-1), 2);
        Check.due("leak(1)", x.leak(1), 12);
    }

    private static void told() {
        SpringFarms x = Told.farms(2);
        Told.pad(x, "...");
        x.seen(0, 1);
        int[] due = {3, 2, 20, 10, 5, 0, 1};
        for (int what = 0; what <= 6; what++) {
            Check.due("told(" + what + ")", x.told(what), due[what]);
        }
        for (int v = 0; v <= 6; v++) {
            x.farm(1, v, v < 3 || v > 4 ? v + 3 : v - 3);
        }
        int[] facts = {3, 4, 5, 0, 1, 8, 9};
        for (int v = 0; v <= 6; v++) {
            Check.due("told(" + (20 + v) + ")", x.told(20 + v), facts[v]);
        }
        for (int what : new int[] {7, 8, 9, 17, 18, 19, 27, 30, 36, 100, 106, 1000, -1, -10, -4, Integer.MIN_VALUE,
            Integer.MAX_VALUE}) {
            Check.due("told(" + what + ")", x.told(what), -2);
        }
        x.farms(9);
        Check.due("told(96)", x.told(96), 0);
        Check.due("told(97)", x.told(97), -2);
    }

    private static void constants() {
        int[] refusals = {SpringFarms.UNKNOWN, SpringFarms.OUTSIDE, SpringFarms.STATE, SpringFarms.FULL,
            SpringFarms.NO, SpringFarms.NONE};
        for (int k = 0; k < refusals.length; k++) {
            Check.due("refusal " + k, refusals[k], -1 - k);
        }
        Check.due("GONE", SpringFarms.GONE, -1000000000000000000L);
    }

    private HeardTests() {
    }
}
