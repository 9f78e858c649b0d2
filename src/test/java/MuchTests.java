/** Promises 16 to 22: how much, how high. */
final class MuchTests {
    static void run() {
        Check.test("promise 16: hours", MuchTests::hours);
        Check.test("promise 17: spring", MuchTests::spring);
        Check.test("promise 18: narrow", MuchTests::narrow);
        Check.test("promise 18: narrow refuses", MuchTests::narrowRefuses);
        Check.test("promise 19: highest", MuchTests::highest);
        Check.test("promise 20: bored", MuchTests::bored);
        Check.test("promise 20: bored among others", MuchTests::boredAmongOthers);
        Check.test("promise 20: bored refuses", MuchTests::boredRefuses);
        Check.test("promise 21: fair", MuchTests::fair);
        Check.test("promise 22: dry", MuchTests::dry);
    }

    private static void hours() {
        SpringFarms x = Told.three();
        Check.due("hours()", x.hours(), 3);
        x.farm(1, 2, 4);
        Check.due("hours()", x.hours(), 2);
        x.farm(0, 2, 99);
        Check.due("hours()", x.hours(), 33);
        x.farm(0, 6, 98);
        Check.due("hours()", x.hours(), 2);
        x.farm(2, 4, 1);
        Check.due("hours(), one plugged", x.hours(), -6);
        x.farm(2, 6, 5);
        Check.due("hours(), it has its pails", x.hours(), 2);
        x.farm(0, 6, 999);
        x.farm(1, 2, 0);
        Check.due("hours(), all have theirs", x.hours(), 0);
        x.farm(1, 2, 1);
        x.farm(1, 3, 1);
        Check.due("hours() are plain", x.hours(), 1);
        Check.due("hours() by one pail an hour", Told.farms(1).hours(), 5);
    }

    private static void spring() {
        SpringFarms x = Told.three();
        // In m hours the farms need ceil(5/m): of level 10 + need, 1 leak, and 5 + need behind.
        Check.due("spring(5)", x.spring(5), 3 + 1 + 10 + 1);
        Check.due("spring(3)", x.spring(3), 3 + 1 + 10 + 2);
        Check.due("spring(2)", x.spring(2), -6);
        x.farm(1, 6, 1);
        Check.due("spring(2)", x.spring(2), 3 + 1 + 10 + 2);
        x.farm(1, 6, 5);
        Check.due("spring(2)", x.spring(2), 3 + 1 + 5 + 3);
        x.set(0, 0);
        Check.due("spring(2) whatever it gives now", x.spring(2), 12);
        Check.due("told(2)", x.told(2), 0);
        Check.due("spring(0)", x.spring(0), -2);
        Check.due("spring(-1)", x.spring(-1), -2);
        Check.due("spring(25)", x.spring(25), -2);
        Check.due("spring(24)", x.spring(24), 3 + 1 + 5 + 1);
        for (int f = 0; f < 3; f++) {
            x.farm(f, 6, 5);
        }
        Check.due("spring(1), all have theirs", x.spring(1), 0);
        SpringFarms y = Told.farms(1);
        Told.hole(y, 0, 50, 9);
        y.farm(0, 2, 9);
        y.farm(0, 5, 9);
        Check.due("spring(1)", y.spring(1), 68);
        SpringFarms z = new SpringFarms();
        int[] heights = {0, 0, 0, 0, 0, 50, 0, 0, 0};
        for (int f = 0; f < 9; f++) {
            Told.hole(z, f, heights[f], 9);
            z.farm(f, 2, f == 5 ? 4 : 0);
        }
        Check.due("spring(1), the most there is", z.spring(1), 99);
        z.farm(5, 2, 5);
        Check.due("spring(1), it would want more", z.spring(1), -6);
        Check.due("spring(2)", z.spring(2), 98);
    }

    private static void narrow() {
        SpringFarms x = Told.three();
        String was = Told.of(x);
        Check.due("narrow(5, -1)", x.narrow(5, -1), 3);
        Check.due("narrow(2, -1)", x.narrow(2, -1), 9);
        Check.due("narrow(1, -1)", x.narrow(1, -1), -6);
        x.set(0, 21);
        Check.due("narrow(1, -1)", x.narrow(1, -1), 15);
        x.farm(0, 6, 3);
        x.farm(2, 6, 5);
        Check.due("narrow(1, -1)", x.narrow(1, -1), 7);
        Check.due("narrow(1, 0)", x.narrow(1, 0), 2);
        Check.due("narrow(1, 1)", x.narrow(1, 1), 5);
        Check.due("narrow(1, 2)", x.narrow(1, 2), 0);
        x.farm(2, 6, 0);
        x.farm(0, 6, 0);
        x.set(0, 20);
        Check.holds("nothing is changed", Told.of(x).equals(was));
    }

    private static void narrowRefuses() {
        SpringFarms x = Told.farms(2);
        Check.due("narrow(1, 2)", x.narrow(1, 2), -1);
        Check.due("narrow(1, -2)", x.narrow(1, -2), -1);
        Check.due("narrow(0, 2)", x.narrow(0, 2), -1);
        Check.due("narrow(0, -1)", x.narrow(0, -1), -2);
        Check.due("narrow(25, 1)", x.narrow(25, 1), -2);
        Check.due("narrow(24, 1)", x.narrow(24, 1), 1);
        x.set(0, 99);
        x.farm(0, 2, 9);
        Check.due("narrow(1, 0)", x.narrow(1, 0), 9);
        x.farm(0, 2, 10);
        Check.due("narrow(1, 0)", x.narrow(1, 0), -6);
        Check.due("narrow(2, 0)", x.narrow(2, 0), 5);
        x.farm(1, 4, 1);
        Check.due("narrow(2, 0), one plugged", x.narrow(2, 0), -6);
        x.farm(1, 2, 0);
        Check.due("narrow(2, 1), it wants none", x.narrow(2, 1), 0);
        Check.due("narrow(2, -1)", x.narrow(2, -1), 5);
    }

    private static void highest() {
        SpringFarms x = Told.three();
        // At five hours: one pail each, of levels 20, 16 (3 are taken above), 14 and less.
        Check.due("highest(0, 5)", x.highest(0, 5), 19);
        Check.due("highest(1, 5)", x.highest(1, 5), 15);
        Check.due("highest(2, 5)", x.highest(2, 5), 13);
        Check.due("highest(0, 2)", x.highest(0, 2), -6);
        Check.due("highest(1, 3)", x.highest(1, 3), 14);
        Check.due("told(20)", x.told(20), 10);
        x.farm(1, 6, 5);
        Check.due("highest(1, 2)", x.highest(1, 2), 50);
        Check.due("highest(3, 1)", x.highest(3, 1), -1);
        Check.due("highest(3, 0)", x.highest(3, 0), -1);
        Check.due("highest(0, 0)", x.highest(0, 0), -2);
        Check.due("highest(0, 25)", x.highest(0, 25), -2);
        Check.due("highest(0, 24)", x.highest(0, 24), 19);
        // Here a lower hole robs the one below: of heights 6 to 9 alone all have theirs.
        SpringFarms y = Told.farms(2);
        y.set(0, 10);
        Told.hole(y, 0, 0, 9);
        Told.hole(y, 1, 5, 9);
        y.farm(0, 2, 1);
        y.farm(1, 2, 1);
        Check.due("hours()", y.hours(), -6);
        Check.due("highest(0, 1)", y.highest(0, 1), 9);
        Check.due("highest(1, 1)", y.highest(1, 1), 0);
    }

    private static void bored(SpringFarms x, int height, int width, int place, int much) {
        Check.due("bored(" + height + ", " + width + ", 0)", x.bored(height, width, 0), place);
        Check.due("bored(" + height + ", " + width + ", 1)", x.bored(height, width, 1), much);
    }

    private static void bored() {
        SpringFarms x = Told.farms(2);
        x.set(0, 10);
        Told.hole(x, 0, 0, 3);
        Told.hole(x, 1, 4, 3);
        String was = Told.of(x);
        bored(x, 0, 9, 2, 4);
        bored(x, 0, 4, 2, 4);
        bored(x, 0, 0, -6, -6);
        bored(x, 4, 9, -6, -6);
        bored(x, 50, 9, -6, -6);
        x.set(0, 20);
        bored(x, 0, 2, 0, 2);
        bored(x, 17, 9, 0, 3);
        bored(x, 16, 9, 0, 4);
        bored(x, 0, 9, 0, 9);
        x.set(0, 19);
        bored(x, 0, 9, 0, 9);
        x.set(0, 18);
        bored(x, 0, 9, 2, 9);
        x.set(0, 10);
        Check.holds("nothing is changed", Told.of(x).equals(was));
        x.set(0, 20);
        x.farm(0, 5, 9);
        x.farm(1, 0, 0);
        bored(x, 15, 9, 0, 5);
        x.farm(0, 4, 1);
        // Ahead of the leaking log it would leave the last farm two; behind the log eleven come.
        bored(x, 3, 9, 1, 8);
    }

    private static void boredAmongOthers() {
        SpringFarms x = Told.farms(1);
        x.set(0, 10);
        Told.hole(x, 0, 0, 9);
        bored(x, 0, 9, 1, 1);
        SpringFarms y = Told.farms(2);
        y.set(0, 10);
        Told.hole(y, 0, 0, 3);
        bored(y, 0, 9, 2, 6);
    }

    private static void boredRefuses() {
        SpringFarms x = Told.farms(8);
        x.set(0, 99);
        bored(x, 0, 1, 0, 1);
        bored(x, 51, 1, -2, -2);
        bored(x, -1, 1, -2, -2);
        bored(x, 0, 10, -2, -2);
        bored(x, 0, -1, -2, -2);
        Check.due("bored(0, 1, 2)", x.bored(0, 1, 2), -2);
        Check.due("bored(0, 1, -1)", x.bored(0, 1, -1), -2);
        SpringFarms y = new SpringFarms();
        bored(y, 0, 1, -3, -3);
        bored(y, 51, 1, -2, -2);
    }

    private static void fair() {
        SpringFarms x = Told.farms(3);
        Told.hole(x, 1, 10, 1);
        Told.hole(x, 2, 4, 9);
        String was = Told.of(x);
        Check.due("fair()", x.fair(), 5);
        Check.holds("nothing is changed", Told.of(x).equals(was));
        x.farm(1, 4, 1);
        Check.due("fair(), one plugged", x.fair(), 8);
        x.farm(0, 4, 1);
        Check.due("fair(), two plugged", x.fair(), 9);
        x.set(0, 0);
        Check.due("fair(), nothing comes", x.fair(), 0);
        x.farm(2, 4, 1);
        Check.due("fair(), all plugged", x.fair(), 9);
        SpringFarms one = Told.farms(1);
        one.farm(0, 0, 15);
        Check.due("fair() of one", one.fair(), 5);
        SpringFarms y = new SpringFarms();
        Check.due("fair() of nine", y.fair(), 2);
        y.farm(4, 5, 2);
        Check.due("fair() with 18 left", y.fair(), 2);
        y.farm(4, 5, 3);
        Check.due("fair() with 17 left", y.fair(), 1);
    }

    private static void dry() {
        SpringFarms x = Told.farms(3);
        Told.hole(x, 0, 0, 5);
        Told.hole(x, 1, 10, 5);
        Told.hole(x, 2, 0, 5);
        String was = Told.of(x);
        Check.due("dry(0)", x.dry(0), -6);
        Check.due("dry(1)", x.dry(1), 1);
        Check.due("dry(15)", x.dry(15), 1);
        Check.due("dry(16)", x.dry(16), 0);
        Check.due("dry(99)", x.dry(99), 0);
        Check.due("dry(100)", x.dry(100), -2);
        Check.due("dry(-1)", x.dry(-1), -2);
        Check.holds("nothing is changed", Told.of(x).equals(was));
        x.farm(1, 4, 1);
        Check.due("dry(10)", x.dry(10), -6);
        Check.due("dry(11)", x.dry(11), 2);
        x.farm(0, 4, 1);
        x.farm(2, 4, 1);
        Check.due("dry(99), all plugged", x.dry(99), -6);
        SpringFarms y = new SpringFarms();
        y.set(0, 1);
        Check.due("dry(99), nothing comes", y.dry(99), 0);
        SpringFarms z = new SpringFarms();
        z.takes(0, 0);
        z.farms(2);
        Check.due("dry(0), farms that were are nothing", z.dry(0), -6);
    }

    private MuchTests() {
    }
}
