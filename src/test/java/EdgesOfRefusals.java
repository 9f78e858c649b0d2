/** Calls that are refused, and those that only ask, leave all as it was: amid farms, a day, sights and an image. */
final class EdgesOfRefusals {
    private static final String SCENE = """
        farms(4)  set(0, 30)  set(1, 20)  set(2, 9)  farm(0, 3, 1)  farm(1, 0, 3)  farm(1, 5, 2)  farm(2, 1, 4)
        farm(2, 2, 50)  farm(3, 6, 7)  seen(1, 1)  pad ".A+"  done() = 3  image(1) = 1  farm(3, 4, 1)  farm(3, 0, 50)
        farm(2, 1, 9)  set(0, 31)  seen(2, 9)  seen(0, 0)  pad ".*"  done() = 2
        """;
    private static final String GOOD_DAY = "pad \".D<n*C\" ", FAULTY_DAY = "pad \".A<!\" ", BAD_DAY = "pad \".A<.\" ";
    private static final String FULL_PAD = "pad \"............................................................\" ";

    static void run() {
        farmsAndDays();
        days();
        what();
        heard();
        asks();
    }

    private static void refused(int promise, String day, String calls) {
        String good = day.equals(GOOD_DAY) ? "" : ", " + day.trim();
        Script.edge("promise " + promise + ": refused, all stays as it was" + good, SCENE + day + calls);
    }

    private static void farmsAndDays() {
        refused(2, GOOD_DAY, "farms(0|10|-1|min|max) = OUTSIDE  told(1) = 4");
        refused(3, GOOD_DAY, """
            farm(4|-1|max, 0, 1) = UNKNOWN  farm(2, 7|-1, 1) = OUTSIDE  farm(2, 0, 51|-1) = OUTSIDE
            farm(2, 1|5, 10|-1) = OUTSIDE  farm(2, 2, 100|-1) = OUTSIDE  farm(2, 3|4, 2|-1) = OUTSIDE
            farm(2, 6, 1000|-1) = OUTSIDE""");
        refused(4, GOOD_DAY, "set(0, 100|-1) = OUTSIDE  set(1|2, 51|-1) = OUTSIDE  set(3|-1, 0) = OUTSIDE");
        refused(5, GOOD_DAY, "say(32|127|0|-1|min|max) = OUTSIDE  told(0) = 6");
        refused(5, FULL_PAD, "say(33|46|126) = FULL  say(32|127) = OUTSIDE  told(0) = 60  judge(2) = 60");
    }

    private static void days() {
        for (String day : new String[] {FAULTY_DAY, BAD_DAY}) {
            String why = day.equals(FAULTY_DAY) ? "NO" : "STATE";
            refused(8, day, "judge(3|-1) = OUTSIDE  judge(2) = " + why + "  told(0) = 4");
            refused(9, day, "behind(4|-1, 0) = UNKNOWN  behind(0, 4|-1) = OUTSIDE  behind(0, 0|1|2|3) = " + why);
            refused(10, day, "ditch() = " + why + "  told(5) = 101");
            refused(11, day, "done() = " + why + "  told(0) = 4  told(5) = 101  done() = " + why);
            refused(12, day, "first(4|-1) = UNKNOWN  first(0|3) = " + why);
        }
    }

    private static void what() {
        refused(13, GOOD_DAY, "takes(4|-1, 0) = UNKNOWN  takes(0, 2|-1) = OUTSIDE");
        refused(14, GOOD_DAY, "takesIf(4|-1, 0) = UNKNOWN  takesIf(0, 4|-1) = UNKNOWN");
        refused(15, GOOD_DAY, "robbed(4|-1) = UNKNOWN");
        refused(17, GOOD_DAY, "spring(0|25) = OUTSIDE");
        refused(18, GOOD_DAY, "narrow(1, 4|-2) = UNKNOWN  narrow(0|25, -1|3) = OUTSIDE");
        refused(19, GOOD_DAY, "highest(4|-1, 1) = UNKNOWN  highest(0, 0|25) = OUTSIDE");
        refused(20, GOOD_DAY, """
            bored(51|-1, 1, 0) = OUTSIDE  bored(0, 10|-1, 0) = OUTSIDE  bored(0, 1, 2|-1) = OUTSIDE""");
        refused(20, "farms(9) farm(3, 0, 7) ", "bored(0, 1, 0|1) = STATE  told(1) = 9");
        refused(22, GOOD_DAY, "dry(100|-1) = OUTSIDE");
    }

    private static void heard() {
        refused(23, GOOD_DAY, "seen(4|-1, 0) = UNKNOWN  seen(0, 10|-1) = OUTSIDE  told(6) = 3");
        refused(23, "seen(0|1|2|3|0, 1) ", """
            seen(3, 2) = FULL  told(6) = 8  seen(4, 2) = UNKNOWN  seen(3, 10) = OUTSIDE""");
        refused(27, GOOD_DAY, "listen(2|-1) = OUTSIDE");
        refused(28, GOOD_DAY, "rests(0|16|-1, 0) = OUTSIDE  rests(15, 0) = FULL");
        refused(29, GOOD_DAY, """
            frost(4|-1, 0, 0, 0, 0) = GONE+UNKNOWN  frost(0, 100|-1, 0, 0, 0) = GONE+OUTSIDE
            frost(0, 0, 11|-1, 0, 0) = GONE+OUTSIDE  frost(0, 0, 0, 13|-1, 0) = GONE+OUTSIDE
            frost(0, 0, 0, 0, 2|-1) = GONE+OUTSIDE""");
        refused(30, GOOD_DAY, """
            year(-1|10000, 1, 0) = OUTSIDE  year(0, 0|100, 0) = OUTSIDE  year(0, 1, 3|-1) = OUTSIDE""");
        refused(31, GOOD_DAY, "image(2|-1) = OUTSIDE");
        refused(32, GOOD_DAY, "restore(2|-1) = OUTSIDE  restore(0) = STATE");
        refused(33, GOOD_DAY, "told(7|9|17|50|-1) = OUTSIDE");
    }

    /** What these answer is asked elsewhere: here only that they change nothing, which each script looks at. */
    private static void asks() {
        String[] asked = {"fault() = NONE", "judge(0|1) = NONE judge(2) = 3", "behind(0|1|2|3, 0|1|2|3)", "ditch()",
            "first(0) = NONE first(1|3)", "takes(0|1|2|3, 0|1)", "takesIf(0|1|2|3, 0|1|2|3)", "robbed(0|1|2|3)",
            "hours() = NONE", "spring(24) = NONE", "narrow(24, -1|0) = NONE", "highest(0, 24) = NONE",
            "bored(0, 9, 0|1)", "fair()", "dry(0) = NONE dry(30|99)", "leak(-1) leak(99) = NONE",
            "borer(-1) borer(99) = NONE", "listen(0|1)", "rests(1|7|10, -1|0)", "frost(0|1|3, 5, 3, 12, 0|1)",
            "year(0|9999, 99, 0|1|2)", "told(0|26)"};
        for (String calls : asked) {
            Script.edge("asked, all stays as it was: " + calls, SCENE + GOOD_DAY + calls);
        }
    }

    private EdgesOfRefusals() {
    }
}
