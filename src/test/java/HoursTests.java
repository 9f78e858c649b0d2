/** Promises 8 to 15: hours. */
final class HoursTests {
    static void run() {
        Check.test("promise 8: judge", HoursTests::judge);
        Check.test("promise 8: the edges of what can not be", HoursTests::judgeEdges);
        Check.test("promise 9: behind", HoursTests::behind);
        Check.test("promise 9: behind refuses", HoursTests::behindRefuses);
        Check.test("promise 10: ditch", HoursTests::ditch);
        Check.test("promise 11: done", HoursTests::done);
        Check.test("promise 11: done refuses", HoursTests::doneRefuses);
        Check.test("promise 12: first", HoursTests::first);
        Check.test("promise 13: takes", HoursTests::takes);
        Check.test("promise 13: edges of an hour", HoursTests::takesEdges);
        Check.test("promise 14: takesIf", HoursTests::takesIf);
        Check.test("promise 15: robbed", HoursTests::robbed);
    }

    private static void judged(SpringFarms x, String text, int part, int why, int hours) {
        Told.pad(x, text);
        Check.due("judge(0) of " + text, x.judge(0), part);
        Check.due("judge(1) of " + text, x.judge(1), why);
        Check.due("judge(2) of " + text, x.judge(2), hours);
    }

    private static void judge() {
        SpringFarms x = Told.three();
        String was = Told.of(x);
        judged(x, "", -6, -6, 0);
        judged(x, ".n*+", -6, -6, 4);
        judged(x, "A.BnC<*A>+Cw", -6, -6, 4);
        judged(x, ".A<.", 1, 1, -3);
        judged(x, "A>A<A<.", 2, 1, -3);
        judged(x, "BwBwBwBwBwBwBwBwA<", 7, 2, -3);
        judged(x, "A<B", 0, 1, -3);
        judged(x, ".z", -5, -5, -5);
        judged(x, "A<z", -5, -5, -5);
        Check.due("judge(3)", x.judge(3), -2);
        Check.due("judge(-1)", x.judge(-1), -2);
        x.wipe();
        Check.holds("nothing is changed", Told.of(x).equals(was));
    }

    private static void judgeEdges() {
        SpringFarms x = Told.farms(2);
        x.farm(1, 0, 49);
        x.farm(1, 1, 8);
        judged(x, "B>", -6, -6, 0);
        judged(x, "B>B>", 1, 1, -3);
        judged(x, "Bw", -6, -6, 0);
        judged(x, "BwBw", 1, 2, -3);
        judged(x, "B>Bw.B<B>", -6, -6, 1);
        x.farm(1, 4, 1);
        judged(x, "B>Bw", -6, -6, 0);
        x.farm(0, 0, 1);
        judged(x, "A<", -6, -6, 0);
        judged(x, "A<A<", 1, 1, -3);
    }

    private static void behind(SpringFarms x, int farm, int pails, int height, int width, int plugged) {
        int[] due = {pails, height, width, plugged};
        for (int what = 0; what < 4; what++) {
            Check.due("behind(" + farm + ", " + what + ")", x.behind(farm, what), due[what]);
        }
    }

    private static void behind() {
        SpringFarms x = Told.three();
        x.farm(1, 6, 100);
        x.farm(2, 6, 999);
        String was = Told.of(x);
        behind(x, 1, 100, 10, 2, 0);
        Told.pad(x, ".");
        behind(x, 0, 3, 0, 3, 0);
        behind(x, 1, 102, 10, 2, 0);
        behind(x, 2, 1003, 5, 4, 0);
        Told.pad(x, "n");
        behind(x, 0, 3, 0, 3, 0);
        behind(x, 1, 101, 10, 2, 0);
        behind(x, 2, 1003, 5, 4, 0);
        Told.pad(x, "*");
        behind(x, 1, 100, 10, 2, 0);
        Told.pad(x, ".n*+");
        behind(x, 0, 12, 0, 3, 0);
        behind(x, 1, 105, 10, 2, 0);
        Told.pad(x, ".AA>AwB.BBB<CwC<C<.");
        behind(x, 0, 3, 1, 4, 1);
        behind(x, 1, 102, 9, 2, 1);
        behind(x, 2, 999 + 4 + 4 + 5, 3, 5, 0);
        x.wipe();
        Check.holds("nothing is changed", Told.of(x).equals(was));
    }

    private static void behindRefuses() {
        SpringFarms x = Told.three();
        Check.due("behind(3, 0)", x.behind(3, 0), -1);
        Check.due("behind(-1, 9)", x.behind(-1, 9), -1);
        Check.due("behind(0, 4)", x.behind(0, 4), -2);
        Check.due("behind(0, -1)", x.behind(0, -1), -2);
        Told.pad(x, "A<");
        Check.due("behind(0, 0)", x.behind(0, 0), -3);
        Check.due("behind(0, 4)", x.behind(0, 4), -2);
        Told.pad(x, "A<?");
        Check.due("behind(0, 0)", x.behind(0, 0), -5);
        Check.due("behind(3, 0)", x.behind(3, 0), -1);
        Check.due("behind(0, 4)", x.behind(0, 4), -2);
    }

    private static void ditch() {
        SpringFarms x = Told.three();
        Check.due("ditch()", x.ditch(), 0);
        Told.pad(x, ".n*+");
        Check.due("ditch()", x.ditch(), 10 + 6 + 12 + 20);
        x.done();
        Check.due("ditch() of what is done", x.ditch(), 48);
        Told.pad(x, ".");
        Check.due("ditch() in all", x.ditch(), 58);
        Check.due("told(5)", x.told(5), 48);
        Told.pad(x, "A<");
        Check.due("ditch()", x.ditch(), -3);
        Told.pad(x, "A<<");
        Check.due("ditch()", x.ditch(), -5);
    }

    private static void done() {
        SpringFarms x = Told.three();
        x.seen(0, 3);
        Check.due("done()", x.done(), 0);
        Told.pad(x, ".nB>AC<CwC*");
        Check.due("done()", x.done(), 8);
        Check.holds("it is so then", Told.of(x).equals(
            "0 3 20 10 5 35 1 0 3 5 0 1 0 6 11 2 5 1 0 1 3 4 5 5 0 1 0 8 "));
        Check.due("done() again", x.done(), 0);
        Told.pad(x, "A+");
        Check.due("done()", x.done(), 2);
        Check.due("told(14)", x.told(14), 0);
        Check.due("told(16)", x.told(16), 9);
        Check.due("told(26)", x.told(26), 5);
        Check.due("told(5)", x.told(5), 35 + 24);
    }

    private static void doneRefuses() {
        SpringFarms x = Told.three();
        String was = Told.of(x);
        Told.pad(x, ".AA<");
        Check.due("done()", x.done(), -3);
        Check.due("wipe()", x.wipe(), 4);
        Told.pad(x, ".Z");
        Check.due("done()", x.done(), -5);
        Check.due("wipe()", x.wipe(), 2);
        Check.holds("nothing is changed", Told.of(x).equals(was));
        x.farm(0, 1, 9);
        x.farm(0, 6, 999);
        for (int k = 0; k < 60; k++) {
            x.say('.');
        }
        Check.due("done()", x.done(), 60);
        Check.due("told(16)", x.told(16), 999 + 540);
        Check.due("farm(0, 6, 1000)", x.farm(0, 6, 1000), -2);
        Check.due("farm(0, 6, 999)", x.farm(0, 6, 999), 1539);
    }

    private static void first() {
        SpringFarms x = Told.three();
        Check.due("first(0)", x.first(0), -6);
        Told.pad(x, ".n*+");
        Check.due("first(0)", x.first(0), 2);
        Check.due("first(1)", x.first(1), 4);
        Check.due("first(2)", x.first(2), 2);
        x.farm(1, 2, 6);
        Check.due("first(1)", x.first(1), -6);
        x.farm(1, 6, 1);
        Check.due("first(1)", x.first(1), 4);
        x.farm(1, 6, 6);
        Check.due("first(1)", x.first(1), 0);
        x.farm(1, 2, 0);
        Check.due("first(1)", x.first(1), 0);
        Told.pad(x, "ABC.A...");
        Check.due("first(0)", x.first(0), 3);
        Check.due("first(3)", x.first(3), -1);
        Told.pad(x, "A<");
        Check.due("first(0)", x.first(0), -3);
        Check.due("first(-1)", x.first(-1), -1);
        Told.pad(x, "A<n!");
        Check.due("first(0)", x.first(0), -5);
    }

    private static void takes() {
        SpringFarms x = Told.three();
        int[] takes = {3, 2, 4};
        int[] levels = {20, 16, 14};
        for (int f = 0; f < 3; f++) {
            Check.due("takes(" + f + ", 0)", x.takes(f, 0), takes[f]);
            Check.due("takes(" + f + ", 1)", x.takes(f, 1), levels[f]);
        }
        x.farm(0, 4, 1);
        Check.due("takes(0, 0)", x.takes(0, 0), 0);
        Check.due("takes(0, 1)", x.takes(0, 1), 20);
        Check.due("takes(1, 1)", x.takes(1, 1), 19);
        Check.due("takes(3, 0)", x.takes(3, 0), -1);
        Check.due("takes(-1, 5)", x.takes(-1, 5), -1);
        Check.due("takes(0, 2)", x.takes(0, 2), -2);
        Check.due("takes(0, -1)", x.takes(0, -1), -2);
        Told.pad(x, "A");
        Check.due("takes(0, 0), the pad is not done", x.takes(0, 0), 0);
    }

    private static void takesEdges() {
        SpringFarms x = Told.farms(2);
        x.set(0, 12);
        Told.hole(x, 0, 7, 9);
        Told.hole(x, 1, 7, 9);
        Check.due("as many as it stands above", x.takes(0, 0), 5);
        Check.due("level with the hole", x.takes(1, 0), 0);
        Check.due("level", x.takes(1, 1), 7);
        x.farm(0, 5, 6);
        Check.due("below the hole", x.takes(0, 0), 0);
        x.set(0, 4);
        Check.due("the log takes all", x.takes(0, 1), 0);
        x.set(2, 50);
        Told.pad(x, "n");
        x.farm(0, 5, 0);
        Check.due("cows leave nothing", x.ditch(), 0);
        Check.due("no pails", x.behind(0, 0), 0);
        x.set(0, 99);
        x.set(1, 50);
        Told.pad(x, "+");
        Check.due("a wet hour", x.ditch(), 149 - 18);
    }

    private static void takesIf() {
        SpringFarms x = Told.farms(3);
        x.set(0, 10);
        Told.hole(x, 0, 0, 4);
        Told.hole(x, 1, 5, 9);
        Told.hole(x, 2, 2, 9);
        String was = Told.of(x);
        Check.due("takesIf(1, 0)", x.takesIf(1, 0), 5);
        Check.due("takesIf(2, 0)", x.takesIf(2, 0), 3);
        Check.due("takesIf(2, 1)", x.takesIf(2, 1), 4);
        Check.due("takesIf(0, 2)", x.takesIf(0, 2), 4);
        Check.due("takesIf(0, 0)", x.takesIf(0, 0), 0);
        Check.holds("nothing is changed", Told.of(x).equals(was));
        x.farm(0, 4, 1);
        Check.due("takesIf(1, 0), open", x.takesIf(1, 0), 1);
        Check.due("takesIf(0, 0), open", x.takesIf(0, 0), 4);
        Check.due("takesIf(3, 0)", x.takesIf(3, 0), -1);
        Check.due("takesIf(0, 3)", x.takesIf(0, 3), -1);
        Check.due("takesIf(-1, 0)", x.takesIf(-1, 0), -1);
        Check.due("takesIf(0, -1)", x.takesIf(0, -1), -1);
    }

    private static void robbed() {
        SpringFarms x = Told.farms(4);
        x.set(0, 10);
        Told.hole(x, 0, 0, 4);
        Told.hole(x, 1, 5, 9);
        Told.hole(x, 2, 2, 1);
        Told.hole(x, 3, 2, 9);
        Check.due("robbed(0)", x.robbed(0), 2);
        Check.due("robbed(1)", x.robbed(1), 8);
        Check.due("robbed(2)", x.robbed(2), 8);
        Check.due("robbed(3)", x.robbed(3), 0);
        x.farm(2, 1, 9);
        Check.due("robbed(1)", x.robbed(1), 4);
        x.farm(0, 4, 1);
        Check.due("robbed(0), plugged", x.robbed(0), 0);
        Check.due("told(14)", x.told(14), 1);
        Check.due("robbed(4)", x.robbed(4), -1);
        Check.due("robbed(-1)", x.robbed(-1), -1);
        SpringFarms y = new SpringFarms();
        y.set(0, 8);
        Check.due("robbed(0) of nine", y.robbed(0), 256);
    }

    private HoursTests() {
    }
}
