/** Promises 1 to 7: farms and days. */
final class FarmsTests {
    static void run() {
        Check.test("promise 1: a new object", FarmsTests::newObject);
        Check.test("promise 2: farms", FarmsTests::farms);
        Check.test("promise 2: what farms leaves", FarmsTests::farmsLeaves);
        Check.test("promise 3: farm", FarmsTests::farm);
        Check.test("promise 3: farm refuses", FarmsTests::farmRefuses);
        Check.test("promise 4: set", FarmsTests::set);
        Check.test("promise 5: say", FarmsTests::say);
        Check.test("promise 6: wipe", FarmsTests::wipe);
        Check.test("promise 7: fault", FarmsTests::fault);
    }

    private static void newObject() {
        SpringFarms x = new SpringFarms();
        StringBuilder first = new StringBuilder("0 9 20 10 5 0 0 ");
        for (int f = 0; f < 9; f++) {
            first.append("0 1 5 0 0 0 0 ");
        }
        Check.holds("as at first", Told.of(x).equals(first.toString()));
        Check.due("restore(0)", x.restore(0), -3);
        Check.due("restore(1)", x.restore(1), -3);
        SpringFarms y = new SpringFarms();
        y.farm(0, 0, 7);
        Check.due("another object's told(10)", x.told(10), 0);
    }

    private static void farms() {
        SpringFarms x = new SpringFarms();
        Check.due("farms(1)", x.farms(1), 9);
        Check.due("farms(9)", x.farms(9), 1);
        Check.due("farms(4)", x.farms(4), 9);
        for (int n : new int[] {0, 10, -1, Integer.MIN_VALUE, Integer.MAX_VALUE}) {
            Check.due("farms(" + n + ")", x.farms(n), -2);
        }
        Check.due("told(1)", x.told(1), 4);
    }

    private static void farmsLeaves() {
        SpringFarms x = Told.three();
        x.set(0, 30);
        x.set(1, 31);
        x.set(2, 32);
        Told.pad(x, ".");
        x.done();
        x.seen(0, 3);
        x.image(1);
        Told.pad(x, "An.");
        Check.holds("a ditch", x.told(5) > 0);
        Check.due("farms(2)", x.farms(2), 3);
        Check.holds("as at first but for the rates and the pad",
            Told.of(x).equals("3 2 30 31 32 0 0 0 1 5 0 0 0 0 0 1 5 0 0 0 0 "));
        Check.due("farms(3)", x.farms(3), 2);
        Check.due("told(30)", x.told(30), 0);
        Check.due("told(31)", x.told(31), 1);
        Check.due("seen(0, 0)", x.seen(0, 0), 1);
        Check.due("restore(1)", x.restore(1), 1);
        Check.due("told(31)", x.told(31), 4);
        Check.due("farms(3), refused", x.farms(12), -2);
        Check.due("told(31)", x.told(31), 4);
    }

    private static void farm() {
        SpringFarms x = new SpringFarms();
        int[] first = {0, 1, 5, 0, 0, 0, 0};
        int[] most = {50, 9, 99, 1, 1, 9, 999};
        for (int f = 0; f < 9; f++) {
            for (int what = 0; what <= 6; what++) {
                String call = "farm(" + f + ", " + what + ", ..)";
                Check.due(call, x.farm(f, what, most[what]), first[what]);
                Check.due(call, x.farm(f, what, 0), most[what]);
                Check.due(call, x.farm(f, what, most[what]), 0);
            }
        }
        for (int f = 0; f < 9; f++) {
            for (int what = 0; what <= 6; what++) {
                Check.due("told of " + f + ", " + what, x.told(10 * (1 + f) + what), most[what]);
            }
        }
    }

    private static void farmRefuses() {
        SpringFarms x = Told.three();
        String was = Told.of(x);
        int[] most = {50, 9, 99, 1, 1, 9, 999};
        for (int what = 0; what <= 6; what++) {
            Check.due("farm(0, " + what + ", too much)", x.farm(0, what, most[what] + 1), -2);
            Check.due("farm(0, " + what + ", -1)", x.farm(0, what, -1), -2);
        }
        Check.due("farm(0, 7, 0)", x.farm(0, 7, 0), -2);
        Check.due("farm(0, 8, 0)", x.farm(0, 8, 0), -2);
        for (int extreme : Told.EXTREMES) {
            if (extreme < 0 || extreme > 2) {
                Check.due("farm(" + extreme + ", 0, 0)", x.farm(extreme, 0, 0), -1);
                Check.due("farm(" + extreme + ", 7, -1)", x.farm(extreme, 7, -1), -1);
            }
            if (extreme < 0 || extreme > 6) {
                Check.due("farm(0, " + extreme + ", 0)", x.farm(0, extreme, 0), -2);
            }
        }
        Check.holds("nothing is changed", Told.of(x).equals(was));
    }

    private static void set() {
        SpringFarms x = new SpringFarms();
        int[] first = {20, 10, 5};
        int[] most = {99, 50, 50};
        for (int which = 0; which < 3; which++) {
            Check.due("set(" + which + ", 0)", x.set(which, 0), first[which]);
            Check.due("set(" + which + ", most)", x.set(which, most[which]), 0);
            Check.due("set(" + which + ", too much)", x.set(which, most[which] + 1), -2);
            Check.due("set(" + which + ", -1)", x.set(which, -1), -2);
            Check.due("told(" + (2 + which) + ")", x.told(2 + which), most[which]);
        }
        Check.due("set(3, 0)", x.set(3, 0), -2);
        Check.due("set(-1, 0)", x.set(-1, 0), -2);
        Check.due("set(least, 0)", x.set(Integer.MIN_VALUE, 0), -2);
    }

    private static void say() {
        SpringFarms x = new SpringFarms();
        for (int extreme : new int[] {32, 127, 0, -1, Integer.MIN_VALUE, Integer.MAX_VALUE}) {
            Check.due("say(" + extreme + ")", x.say(extreme), -2);
        }
        Check.due("told(0)", x.told(0), 0);
        Check.due("say(33)", x.say(33), 1);
        Check.due("say(126)", x.say(126), 2);
        for (int k = 3; k <= 60; k++) {
            Check.due("say(46)", x.say(46), k);
        }
        Check.due("say(46) when full", x.say(46), -4);
        Check.due("say(32) when full", x.say(32), -2);
        Check.due("told(0)", x.told(0), 60);
        Check.due("fault()", x.fault(), 0);
    }

    private static void wipe() {
        SpringFarms x = new SpringFarms();
        Check.due("wipe()", x.wipe(), 0);
        Told.pad(x, "A<!");
        Check.due("wipe()", x.wipe(), 3);
        Check.due("told(0)", x.told(0), 0);
        Check.due("fault()", x.fault(), -6);
        Check.due("wipe()", x.wipe(), 0);
        Check.due("say(46)", x.say(46), 1);
        Check.due("judge(2)", x.judge(2), 1);
    }

    private static void fault(SpringFarms x, String text, int due) {
        Told.pad(x, text);
        Check.due("fault() of " + text, x.fault(), due);
        Check.due("judge(1) of " + text, x.judge(1) == -5 ? 1 : 0, due == -6 ? 0 : 1);
    }

    private static void fault() {
        SpringFarms x = new SpringFarms();
        Check.due("fault()", x.fault(), -6);
        fault(x, ".n*+", -6);
        fault(x, "ABCDEFGHI", -6);
        fault(x, "A<A>AwAA.", -6);
        fault(x, "J", 0);
        fault(x, "J<", 0);
        fault(x, "Aw<", 2);
        fault(x, "A.w", 2);
        fault(x, "A>>", 2);
        fault(x, "Awn", -6);
        fault(x, "AW", 1);
        fault(x, "A<w", 2);
        fault(x, "a", 0);
        fault(x, "..N", 2);
        fault(x, "@", 0);
        fault(x, ".,", 1);
        fault(x, "<", 0);
        fault(x, "~!", 0);
        Told.pad(x, "AC<B");
        x.farms(2);
        Check.due("fault() of two farms", x.fault(), 1);
        x.farms(3);
        Check.due("fault() of three farms", x.fault(), -6);
        StringBuilder full = new StringBuilder();
        for (int k = 0; k < 30; k++) {
            full.append("A>");
        }
        fault(x, full.toString(), -6);
        fault(x, full.substring(1) + "A", 0);
        fault(x, "." + full.substring(0, 58) + "A", -6);
    }

    private FarmsTests() {
    }
}
