/** The edges of promises 1 to 7. */
final class EdgesOfFarms {
    /** The signs that can stand anywhere on the pad of nine farms. */
    private static final String ANYWHERE = ".n*+ABCDEFGHI";

    static void run() {
        newObject();
        farms();
        farm();
        set();
        say();
        wipe();
        fault();
        faultOfEachSign();
    }

    private static void edge(int promise, String title, String text) {
        Script.edge("promise " + promise + ": " + title, text);
    }

    private static void newObject() {
        edge(1, "nine farms, nothing on the pad, no ditch, no sights, no images", """
            told(1) = 9  told(0) = 0  told(5) = 0  told(6) = 0  restore(0|1) = STATE  wipe() = 0  forget() = 0
            farms(9) = 9""");
        Check.test("promise 1: objects are apart", () -> {
            SpringFarms x = new SpringFarms();
            SpringFarms y = new SpringFarms();
            x.farms(2);
            x.farm(0, 0, 50);
            x.say('A');
            x.seen(0, 1);
            x.image(0);
            Check.due("told(1)", y.told(1), 9);
            Check.due("told(10)", y.told(10), 0);
            Check.due("told(0)", y.told(0), 0);
            Check.due("told(6)", y.told(6), 0);
            Check.due("restore(0)", y.restore(0), -3);
            Check.due("told(10)", new SpringFarms().told(10), 0);
        });
    }

    private static void farms() {
        edge(2, "n is 1 to 9", "farms(0|-1|10|min|max) = OUTSIDE  farms(1) = 9  farms(9) = 1  farms(5) = 9");
        edge(2, "which it was", "farms(9) = 9  farms(1) = 9  farms(1) = 1  farms(2) = 1  told(1) = 2");
        edge(2, "refused, all is as it was", """
            farms(2)  farm(1, 0, 7)  farm(1, 6, 8)  seen(1, 1)  pad "."  done()  farms(0|10) = OUTSIDE
            told(1) = 2  told(20) = 7  told(26) = 9  told(6) = 1  told(5) = 18""");
        edge(2, "all FARMS are as at first, those that there were and those that come", """
            farm(0|8, 0, 50)  farm(0|8, 1, 9)  farm(0|8, 2, 99)  farm(0|8, 3, 1)  farm(0|8, 4, 1)  farm(0|8, 5, 9)
            farm(0|8, 6, 999)  farms(9) = 9
            told(10|90) = 0  told(11|91) = 1  told(12|92) = 5  told(13|93) = 0  told(14|94) = 0  told(15|95) = 0
            told(16|96) = 0""");
        edge(2, "as at first, once there are fewer and more again", """
            farm(8, 0, 50)  farm(0, 0, 50)  farms(1) = 9  told(10) = 0  farm(0, 0, 40)  farms(9) = 1  told(10|90) = 0
            """);
        edge(2, "as many as there are: as at first, too", """
            farms(3)  farm(2, 1, 7)  seen(2, 2)  pad "."  done()  farms(3) = 3  told(31) = 1  told(5) = 0  told(6) = 0
            """);
        edge(2, "DITCH is 0", "pad \".\"  done() = 1  told(5) = 11  farms(9)  told(5) = 0  ditch() = 0");
        edge(2, "SIGHTS go", """
            seen(0, 1|1|1|1|1|1|1)  seen(8, 9) = 8  seen(0, 0) = FULL  leak(-1) = 0  farms(9)  told(6) = 0
            leak(-1) = 81  forget() = 0  seen(0, 1) = 1""");
        edge(2, "SPRING, RAIN, COWS stay", """
            set(0, 99)  set(1, 50)  set(2, 49)  farms(1)  told(2) = 99  told(3) = 50  told(4) = 49  takes(0, 1) = 99
            """);
        edge(2, "the PAD stays", "pad \"A.B\"  farms(2)  told(0) = 3  judge(2) = 1  farms(1)  fault() = 2  wipe() = 3");
        edge(2, "IMAGES stay", """
            farm(0, 0, 9)  image(0)  farms(3)  image(1)  farms(1)  restore(0) = 1  told(1) = 9  told(10) = 9
            restore(1) = 1  told(1) = 3  told(10) = 0""");
    }

    private static void farm() {
        edge(3, "HEIGHT is 0 to 50", """
            farm(0, 0, -1|51|min|max) = OUTSIDE  farm(0, 0, 50) = 0  farm(0, 0, 51) = OUTSIDE  farm(0, 0, 0) = 50
            farm(0, 0, 1) = 0  farm(0, 0, 49) = 1  told(10) = 49""");
        edge(3, "WIDTH is 0 to 9", """
            farm(0, 1, -1|10|min|max) = OUTSIDE  farm(0, 1, 9) = 1  farm(0, 1, 10) = OUTSIDE  farm(0, 1, 0) = 9
            told(11) = 0""");
        edge(3, "WANTS is 0 to 99", """
            farm(0, 2, -1|100|min|max) = OUTSIDE  farm(0, 2, 99) = 5  farm(0, 2, 100) = OUTSIDE  farm(0, 2, 0) = 99
            told(12) = 0""");
        edge(3, "NORTH is 1 or 0", """
            farm(0, 3, -1|2|min|max) = OUTSIDE  farm(0, 3, 0) = 0  farm(0, 3, 1) = 0  farm(0, 3, 1) = 1
            farm(0, 3, 2) = OUTSIDE  farm(0, 3, 0) = 1  told(13) = 0""");
        edge(3, "PLUGGED is 1 or 0", """
            farm(0, 4, -1|2|min|max) = OUTSIDE  farm(0, 4, 0) = 0  farm(0, 4, 1) = 0  farm(0, 4, 1) = 1
            farm(0, 4, 2) = OUTSIDE  farm(0, 4, 0) = 1  told(14) = 0""");
        edge(3, "LEAKS is 0 to 9", """
            farm(0, 5, -1|10|min|max) = OUTSIDE  farm(0, 5, 9) = 0  farm(0, 5, 10) = OUTSIDE  farm(0, 5, 0) = 9
            told(15) = 0""");
        edge(3, "PAILS is 0 to 999", """
            farm(0, 6, -1|1000|min|max) = OUTSIDE  farm(0, 6, 999) = 0  farm(0, 6, 1000) = OUTSIDE  farm(0, 6, 0) = 999
            told(16) = 0""");
        edge(3, "what is 0 to 6", """
            farm(0, -1|7|8|10|min|max, 0) = OUTSIDE  farm(0, 0|1|2|3|4|5, 1)  farm(0, 6, 1) = 0""");
        edge(3, "UNKNOWN: there is no such farm", """
            farm(9|10|-1|-2|min|max, 0, 0) = UNKNOWN  farm(8, 0, 3) = 0  farms(4)  farm(4|8, 0, 0) = UNKNOWN
            farm(3, 0, 3) = 0  farm(-1, 0, 0) = UNKNOWN  farms(1)  farm(1, 0, 0) = UNKNOWN  farm(0, 0, 0) = 0""");
        edge(3, "UNKNOWN ahead of OUTSIDE", "farm(9|-1, 7|-1, 0) = UNKNOWN  farm(9|-1, 0, 51|-1) = UNKNOWN");
        edge(3, "of the one farm alone, of the one number alone", """
            farm(4, 2, 99) = 5  told(42) = 5  told(52) = 99  told(62) = 5  told(51) = 1  told(53) = 0""");
    }

    private static void set() {
        edge(4, "SPRING is 0 to 99", """
            set(0, -1|100|min|max) = OUTSIDE  set(0, 99) = 20  set(0, 100) = OUTSIDE  set(0, 0) = 99  set(0, 0) = 0
            told(2) = 0  told(3) = 10  told(4) = 5""");
        edge(4, "RAIN is 0 to 50", """
            set(1, -1|51|min|max) = OUTSIDE  set(1, 50) = 10  set(1, 51|99) = OUTSIDE  set(1, 0) = 50  told(3) = 0
            told(2) = 20  told(4) = 5""");
        edge(4, "COWS drink 0 to 50", """
            set(2, -1|51|min|max) = OUTSIDE  set(2, 50) = 5  set(2, 51|99) = OUTSIDE  set(2, 0) = 50  told(4) = 0
            told(2) = 20  told(3) = 10""");
        edge(4, "which is 0 to 2", "set(-1|3|4|min|max, 0) = OUTSIDE  set(-1|3, 100) = OUTSIDE");
    }

    private static void say() {
        edge(5, "a sign is 33 to 126", """
            say(32|127|0|-1|128|256|289|min|max) = OUTSIDE  told(0) = 0  say(33) = 1  say(126) = 2  say(34) = 3
            say(125) = 4  told(0) = 4""");
        edge(5, "60 signs are the most", """
            pad "..........................................................."  told(0) = 59  say(46) = 60
            say(46|33|126) = FULL  told(0) = 60  judge(2) = 60""");
        edge(5, "OUTSIDE ahead of FULL", """
            pad "............................................................"  say(32|127|min|max) = OUTSIDE
            say(33) = FULL""");
        edge(5, "once wiped, 60 again", """
            pad "............................................................"  say(46) = FULL  wipe() = 60
            say(65) = 1  told(0) = 1
            pad "............................................................"  done() = 60  say(46) = 1""");
        edge(5, "a sign that can not stand there is said all the same", "say(33) = 1  say(60) = 2  say(97) = 3");
    }

    private static void wipe() {
        edge(6, "of an empty pad: 0", "wipe() = 0  wipe() = 0  told(0) = 0");
        edge(6, "how many there were", """
            say(46) = 1  wipe() = 1  wipe() = 0  pad "A<!"  wipe() = 3  fault() = NONE  judge(2) = 0
            pad "............................................................"  wipe() = 60  wipe() = 0""");
        edge(6, "the signs alone go", """
            farm(0, 0, 4)  seen(0, 3)  image(1)  pad "."  wipe() = 1  told(10) = 4  told(6) = 1  restore(1) = 1""");
        edge(6, "what was said before is not there any more", "pad \"!!!\"  wipe() = 3  say(46) = 1  judge(2) = 1");
    }

    private static void fault() {
        edge(7, "of an empty pad: NONE", "fault() = NONE  pad \"!\"  wipe()  fault() = NONE");
        edge(7, "the place from 0 on, of the first", """
            pad "!"  fault() = 0  pad ".!"  fault() = 1  pad ".!!"  fault() = 1  pad "A<!"  fault() = 2
            pad "A!<"  fault() = 1  pad ".!."  fault() = 1""");
        edge(7, "at the last of 60 places", """
            pad "...........................................................!"  fault() = 59
            pad "...........................................................A"  fault() = NONE""");
        edge(7, "< at the last of 60 places, without a capital and with one", """
            pad "...........................................................<"  fault() = 59
            pad "..........................................................A<"  fault() = NONE""");
        edge(7, "< and > and w stand behind a capital alone, one of them", """
            pad "<"  fault() = 0  pad ">"  fault() = 0  pad "w"  fault() = 0  pad ".<"  fault() = 1
            pad "A<<"  fault() = 2  pad "A<>"  fault() = 2  pad "Aww"  fault() = 2  pad "A.<"  fault() = 2
            pad "AA<"  fault() = NONE  pad "A<A<"  fault() = NONE""");
        edge(7, "a capital of a farm that there is not", """
            farms(1)  pad "A"  fault() = NONE  pad "B"  fault() = 0  pad "AB"  fault() = 1  pad "AB<"  fault() = 1
            pad "A<B<"  fault() = 2  farms(2)  fault() = NONE  farms(1)  fault() = 2  pad "I"  fault() = 0
            farms(9)  fault() = NONE  pad "J"  fault() = 0  pad "J<"  fault() = 0  pad "I<J"  fault() = 2
            farms(8)  pad "I"  fault() = 0  pad "H"  fault() = NONE""");
        edge(7, "small letters are no capitals", """
            pad "a"  fault() = 0  pad "Aa"  fault() = 1  pad "N"  fault() = 0  pad "W"  fault() = 0
            pad "AW"  fault() = 1  pad "n"  fault() = NONE""");
        edge(7, "a part that can not be is no fault", """
            pad "A<"  fault() = NONE  judge(0) = 0  pad "A<!"  fault() = 2""");
        edge(7, "as the farms are that there are now, in an image too", """
            image(0)  farms(1)  pad "B"  fault() = 0  restore(0)  fault() = NONE""");
    }

    private static void faultOfEachSign() {
        Check.test("promise 7: each sign, alone and behind others", () -> {
            for (int sign = 33; sign <= 126; sign++) {
                boolean anywhere = ANYWHERE.indexOf(sign) >= 0;
                boolean behindCapital = "<>w".indexOf(sign) >= 0;
                faultBehind("", sign, anywhere);
                faultBehind("I", sign, anywhere || behindCapital);
                faultBehind("A<", sign, anywhere);
                faultBehind("Cw", sign, anywhere);
                faultBehind("n", sign, anywhere);
                faultBehind("..E>G+", sign, anywhere);
            }
        });
        Check.test("promise 7: each capital among each number of farms", () -> {
            for (int n = 1; n <= 9; n++) {
                for (int capital = 'A'; capital <= 'Z'; capital++) {
                    SpringFarms x = Told.farms(n);
                    x.say(capital);
                    Check.due("fault() of " + (char) capital, x.fault(), capital < 'A' + n ? -6 : 0);
                }
            }
        });
    }

    private static void faultBehind(String ahead, int sign, boolean good) {
        SpringFarms x = new SpringFarms();
        Told.pad(x, ahead);
        x.say(sign);
        Check.due("fault() of " + ahead + (char) sign, x.fault(), good ? -6 : ahead.length());
    }

    private EdgesOfFarms() {
    }
}
