/** The edges that the paragraphs of "Terms" name, each under its paragraph and the promise that shows it. */
final class EdgesOfTerms {
    static void run() {
        calls();
        farms();
        levels();
        takings();
        shutFarms();
        ditch();
        signs();
        reasons();
    }

    private static void edge(String title, String text) {
        Script.edge("terms, " + title, text);
    }

    private static void calls() {
        Check.test("what it is: an object answers its 512th call", () -> {
            SpringFarms x = new SpringFarms();
            for (int call = 1; call <= 512; call++) {
                int was = call == 1 ? 0 : (call - 1) % 1000;
                Check.due("call " + call + ", farm(8, 6, ..)", x.farm(8, 6, call % 1000), was);
            }
        });
        Check.test("what it is: the fullest ditch of 512 calls", () -> {
            SpringFarms x = Told.farms(1);
            x.set(0, 99);
            x.set(1, 50);
            x.farm(0, 4, 1);
            for (int day = 1; day <= 8; day++) {
                for (int sign = 0; sign < 60; sign++) {
                    x.say('+');
                }
                Check.due("done()", x.done(), 60);
                Check.due("told(5)", x.told(5), day * 60 * 149);
            }
        });
        Check.test("what it is: the most pails of 512 calls", () -> {
            SpringFarms x = Told.farms(1);
            x.farm(0, 1, 9);
            x.farm(0, 6, 999);
            for (int day = 1; day <= 8; day++) {
                for (int sign = 0; sign < 60; sign++) {
                    x.say('.');
                }
                Check.due("done()", x.done(), 60);
                Check.due("told(16)", x.told(16), 999 + day * 60 * 9);
            }
        });
    }

    private static void farms() {
        edge("1: nine farms at first, FARM 0 to 8", """
            told(1) = 9  takes(0, 0) = 1  takes(8, 0) = 1  takes(9|-1|min|max, 0) = UNKNOWN
            told(90) = 0  told(100) = OUTSIDE""");
        edge("1: FARMS 0 to n less 1, of one farm", """
            farms(1)  takes(0, 0) = 1  takes(1|8|-1, 0) = UNKNOWN""");
        edge("1: FARMS 0 to n less 1, of eight farms", """
            farms(8)  takes(7, 0) = 1  takes(8|9|-1, 0) = UNKNOWN""");
        edge("1: what a farm is at first", """
            told(10|20|30|40|50|60|70|80|90) = 0
            told(11|21|31|41|51|61|71|81|91) = 1
            told(12|22|32|42|52|62|72|82|92) = 5
            told(13|23|33|43|53|63|73|83|93) = 0
            told(14|24|34|44|54|64|74|84|94) = 0
            told(15|25|35|45|55|65|75|85|95) = 0
            told(16|26|36|46|56|66|76|86|96) = 0""");
        edge("1: SPRING, RAIN, COWS at first", "told(2) = 20  told(3) = 10  told(4) = 5");
        edge("1: by hours PAILS may be above 999", """
            farms(1)  farm(0, 6, 999) = 0  pad "."  behind(0, 0) = 1000  done() = 1  told(16) = 1000
            farm(0, 6, 1000) = OUTSIDE  told(16) = 1000  farm(0, 6, 999) = 1000""");
    }

    private static void levels() {
        edge("1: the LEVEL begins as the SPRING, 0 and 99", """
            farms(1)  set(0, 0)  takes(0, 1) = 0  takes(0, 0) = 0
            set(0, 99)  takes(0, 1) = 99  set(0, 1)  takes(0, 1) = 1  takes(0, 0) = 1""");
        edge("1: RAIN in a wet hour alone", """
            farms(1)  farm(0, 1, 0)  set(2, 0)  set(1, 50)
            pad "."  ditch() = 20  pad "*"  ditch() = 20  pad "n"  ditch() = 20  pad "+"  ditch() = 70
            set(1, 0)  ditch() = 20  set(1, 1)  ditch() = 21  takes(0, 1) = 20""");
        edge("1: the most water, SPRING and RAIN", """
            farms(1)  farm(0, 1, 0)  set(0, 99)  set(1, 50)  pad "+"  ditch() = 149""");
        edge("1: COWS at noon alone", """
            farms(1)  farm(0, 1, 0)  set(1, 0)  set(2, 7)
            pad "."  ditch() = 20  pad "*"  ditch() = 20  pad "+"  ditch() = 20  pad "n"  ditch() = 13
            set(2, 0)  ditch() = 20  takes(0, 1) = 20""");
        edge("1: less COWS, 0 at least", """
            farms(1)  farm(0, 1, 0)  pad "n"  set(2, 19)  ditch() = 1  set(2, 20)  ditch() = 0
            set(2, 21)  ditch() = 0  set(0, 0)  set(2, 50)  ditch() = 0  set(0, 49)  ditch() = 0
            set(0, 50)  ditch() = 0  set(0, 51)  ditch() = 1""");
        edge("1: a log takes LEAKS, down to 0", """
            farms(1)  farm(0, 5, 9)  set(0, 10)  takes(0, 1) = 1  takes(0, 0) = 1
            set(0, 9)  takes(0, 1) = 0  takes(0, 0) = 0  set(0, 8)  takes(0, 1) = 0  pad "."  ditch() = 0
            set(0, 0)  takes(0, 1) = 0  takes(0, 0) = 0  ditch() = 0""");
        edge("1: each log takes of what the farms ahead left", """
            farms(3)  set(0, 12)  farm(0, 1, 5)  farm(1, 5, 6)  takes(1, 1) = 1  takes(1, 0) = 1  takes(2, 1) = 0
            farm(1, 5, 7)  takes(1, 1) = 0  takes(1, 0) = 0  farm(1, 5, 8)  takes(1, 1) = 0
            farm(2, 5, 9)  takes(2, 1) = 0  pad "."  ditch() = 0""");
        edge("1: a log takes LEAKS in hours of each kind", """
            farms(1)  farm(0, 1, 0)  farm(0, 5, 4)
            pad "."  ditch() = 16  pad "n"  ditch() = 11  pad "*"  ditch() = 16  pad "+"  ditch() = 26""");
    }

    private static void takings() {
        edge("1: WIDTH pails, or as many as the LEVEL is above HEIGHT, if fewer", """
            farms(1)  farm(0, 0, 10)  farm(0, 1, 5)
            set(0, 14)  takes(0, 0) = 4  set(0, 15)  takes(0, 0) = 5  set(0, 16)  takes(0, 0) = 5""");
        edge("1: none, if the LEVEL is not above HEIGHT", """
            farms(1)  farm(0, 0, 10)  farm(0, 1, 5)
            set(0, 11)  takes(0, 0) = 1  set(0, 10)  takes(0, 0) = 0  set(0, 9)  takes(0, 0) = 0
            set(0, 0)  takes(0, 0) = 0""");
        edge("1: the highest hole, the widest", """
            farms(1)  farm(0, 0, 50)  farm(0, 1, 9)  set(0, 49)  takes(0, 0) = 0  set(0, 50)  takes(0, 0) = 0
            set(0, 51)  takes(0, 0) = 1  set(0, 58)  takes(0, 0) = 8  set(0, 59)  takes(0, 0) = 9
            set(0, 60)  takes(0, 0) = 9  set(0, 99)  takes(0, 0) = 9""");
        edge("1: a WIDTH of 0 takes none", "farms(1)  farm(0, 1, 0)  set(0, 99)  takes(0, 0) = 0  takes(0, 1) = 99");
        edge("1: the LEVEL is so much less", """
            farms(3)  farm(0, 0, 15)  farm(0, 1, 9)  farm(1, 1, 9)  farm(2, 1, 9)
            takes(0, 0) = 5  takes(1, 1) = 15  takes(1, 0) = 9  takes(2, 1) = 6  takes(2, 0) = 6""");
        edge("1: what a hole stands too high for runs on", """
            farms(2)  farm(0, 0, 20)  farm(0, 1, 9)  takes(0, 0) = 0  takes(1, 1) = 20
            farm(0, 0, 19)  takes(0, 0) = 1  takes(1, 1) = 19""");
        edge("1: LEAKS are gone before the LEVEL is above HEIGHT", """
            farms(1)  farm(0, 0, 15)  farm(0, 1, 9)  farm(0, 5, 4)  takes(0, 0) = 1
            farm(0, 5, 5)  takes(0, 0) = 0  farm(0, 5, 6)  takes(0, 0) = 0""");
    }

    private static void shutFarms() {
        edge("1: a PLUGGED farm takes none, in hours of each kind; its log LEAKS", """
            farms(2)  farm(0, 4, 1)  farm(0, 5, 3)  takes(0, 0) = 0  takes(0, 1) = 17  takes(1, 1) = 17
            pad ".n*+"  behind(0, 0) = 0  behind(1, 0) = 4  ditch() = 69""");
        edge("1: a NORTH farm takes none in a frost alone; its log LEAKS", """
            farms(2)  farm(0, 3, 1)  farm(0, 5, 3)  takes(0, 0) = 1
            pad "."  behind(0, 0) = 1  pad "n"  behind(0, 0) = 1  pad "+"  behind(0, 0) = 1
            pad "*"  behind(0, 0) = 0  behind(1, 0) = 1  ditch() = 16""");
        edge("1: in a frost a farm that is not NORTH takes what a NORTH one leaves", """
            farms(2)  set(0, 9)  farm(0, 1, 9)  farm(1, 1, 9)  farm(0, 3, 1)
            pad "."  behind(0, 0) = 9  behind(1, 0) = 0  pad "*"  behind(0, 0) = 0  behind(1, 0) = 9""");
        edge("1: a farm both NORTH and PLUGGED takes none", """
            farms(1)  farm(0, 3, 1)  farm(0, 4, 1)  pad ".n*+"  behind(0, 0) = 0""");
    }

    private static void ditch() {
        edge("1: what is left behind the last goes to the DITCH, 0 too", """
            farms(2)  farm(0, 1, 9)  farm(1, 1, 9)  pad "."  set(0, 17)  ditch() = 0  behind(1, 0) = 8
            set(0, 18)  ditch() = 0  behind(1, 0) = 9  set(0, 19)  ditch() = 1  set(0, 0)  ditch() = 0""");
        edge("1: a last one that is PLUGGED leaves all", """
            farms(2)  farm(1, 4, 1)  pad "."  ditch() = 19  farm(0, 4, 1)  ditch() = 20""");
        edge("1: farms that were take nothing any more", """
            farm(8, 1, 9)  farm(8, 5, 9)  farms(8)  pad "."  ditch() = 12  farms(1)  ditch() = 19""");
    }

    private static void signs() {
        edge("1: each sign of a day", """
            farms(1)  farm(0, 0, 25)  farm(0, 1, 4)
            pad "A"  behind(0, 3) = 1  pad "A<"  behind(0, 1) = 24  behind(0, 3) = 0
            pad "A>"  behind(0, 1) = 26  behind(0, 3) = 0  pad "Aw"  behind(0, 2) = 5  behind(0, 3) = 0
            pad "."  judge(2) = 1  pad "n"  judge(2) = 1  pad "*"  judge(2) = 1  pad "+"  judge(2) = 1""");
        edge("1: a capital turns the plug, or, if it was PLUGGED, not any more", """
            farms(2)  pad "A"  behind(0, 3) = 1  behind(1, 3) = 0  pad "AA"  behind(0, 3) = 0
            pad "AAA"  behind(0, 3) = 1  farm(0, 4, 1)  pad "A"  behind(0, 3) = 0  pad "AB"  behind(1, 3) = 1""");
        edge("1: a capital before one of these three goes with it, of two capitals the second", """
            farms(2)  farm(0, 0, 5)  farm(1, 0, 5)
            pad "AB<"  behind(0, 3) = 1  behind(0, 1) = 5  behind(1, 3) = 0  behind(1, 1) = 4
            pad "AA>"  behind(0, 3) = 1  behind(0, 1) = 6  pad "AwA"  behind(0, 2) = 2  behind(0, 3) = 1""");
        edge("1: a PAD of 60 signs, of 1, of none", """
            farms(1)  judge(2) = 0
            pad "............................................................"  judge(2) = 60  behind(0, 0) = 60
            pad "."  judge(2) = 1  pad ""  judge(2) = 0  behind(0, 0) = 0  ditch() = 0""");
        edge("1: a capital at the 60th place, and what goes with it there", """
            farms(1)  pad "...........................................................A"  judge(2) = 59
            behind(0, 3) = 1
            pad "..........................................................A>"  judge(2) = 58  behind(0, 1) = 1
            behind(0, 3) = 0""");
    }

    private static void reasons() {
        edge("1: reason 1, HEIGHT below 0", """
            pad "A<"  judge(1) = 1  farm(0, 0, 1)  judge(1) = NONE  behind(0, 1) = 0
            pad "A<A<"  judge(0) = 1  judge(1) = 1""");
        edge("1: reason 1, HEIGHT above 50", """
            farm(0, 0, 50)  pad "A>"  judge(1) = 1  farm(0, 0, 49)  judge(1) = NONE  behind(0, 1) = 50
            pad "A>A>"  judge(0) = 1  judge(1) = 1""");
        edge("1: reason 2, WIDTH above 9", """
            farm(0, 1, 9)  pad "Aw"  judge(1) = 2  farm(0, 1, 8)  judge(1) = NONE  behind(0, 2) = 9
            pad "AwAw"  judge(0) = 1  judge(1) = 2""");
        edge("1: hours and plugs can always be", """
            set(0, 0)  set(1, 0)  set(2, 50)  farm(0, 0, 50)  farm(0, 1, 9)  farm(0, 3, 1)
            pad ".n*+AAA"  judge(0) = NONE  judge(1) = NONE""");
        edge("1: a PLUGGED farm's hole has the same bounds", """
            farm(0, 4, 1)  farm(0, 1, 9)  pad "A<"  judge(1) = 1  pad "Aw"  judge(1) = 2  pad "A>"  judge(1) = NONE""");
    }

    private EdgesOfTerms() {
    }
}
