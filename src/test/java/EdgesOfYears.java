/** The edges of promises 29 to 33. */
final class EdgesOfYears {
    static void run() {
        frost();
        frostsTerms();
        frostRefuses();
        year();
        yearsDraws();
        yearRefuses();
        image();
        restore();
        told();
    }

    private static void edge(int promise, String title, String text) {
        Script.edge("promise " + promise + ": " + title, text);
    }

    private static void frost() {
        edge(29, "m is 0 to 12", """
            farms(1)  farm(0, 3, 1)  frost(0, 0, 5, 0, 0) = 1  frost(0, 0, 5, 0, 1) = 1  frost(0, 1, 5, 0, 0) = 0
            frost(0, 1, 5, 0, 1) = 1  frost(0, 12, 1, 12, 0) = 282429536481  frost(0, 12, 1, 12, 1) = 1000000000000
            frost(0, 13, 1, 12, 0) = 0  frost(0, 0, 0, -1|13|min|max, 0|1) = GONE+OUTSIDE""");
        edge(29, "c is 0 to 10", """
            farms(1)  farm(0, 3, 1)  frost(0, 12, 0, 12, 0|1) = 1  frost(0, 13, 0, 12, 0) = 0
            frost(0, 0, 10, 12, 0|1) = 1  frost(0, 1, 10, 12, 0) = 0  frost(0, 1, 10, 12, 1) = 1
            frost(0, 1, 9, 12, 0) = 717570463519  frost(0, 1, 9, 12, 1) = 1000000000000
            frost(0, 0, -1|11|min|max, 0, 0|1) = GONE+OUTSIDE""");
        edge(29, "v is 0 to 99", """
            farms(1)  farm(0, 3, 1)  farm(0, 1, 9)  frost(0, 99, 0, 11, 0) = 1  frost(0, 99, 0, 10, 0) = 0
            frost(0, 99, 1, 12, 0) = 659002251789  frost(0, 99, 1, 12, 1) = 1000000000000  frost(0, 0, 9, 12, 0) = 1
            frost(0, 0, 9, 12, 1) = 1  frost(0, -1|100|min|max, 0, 12, 0|1) = GONE+OUTSIDE""");
        edge(29, "v or more: as many, one more", """
            farms(1)  farm(0, 3, 1)  farm(0, 1, 4)  frost(0, 4, 5, 1, 1) = 2  frost(0, 5, 5, 1, 0) = 0
            frost(0, 1, 5, 1, 1) = 2  frost(0, 4, 5, 2, 0) = 3  frost(0, 5, 5, 2, 0) = 1  frost(0, 8, 5, 2, 0) = 1
            frost(0, 9, 5, 2, 0) = 0""");
        edge(29, "PAILS that it has now aside", """
            farms(1)  farm(0, 6, 999)  farm(0, 4, 1)  frost(0, 1, 5, 12, 0) = 0  frost(0, 0, 5, 12, 0) = 1""");
        edge(29, "a FARM that is not NORTH, alone and below one that is", """
            farms(2)  set(0, 1)  frost(0, 12, 9, 12, 0|1) = 1  frost(1, 1, 9, 12, 0) = 0  farm(0, 3, 1)
            frost(1, 1, 1, 1, 0) = 1  frost(1, 1, 1, 1, 1) = 10  frost(1, 1, 0, 12, 0) = 0  frost(1, 12, 10, 12, 0) = 1
            """);
        edge(29, "no RAIN, no COWS", """
            farms(1)  set(1, 50)  set(2, 50)  set(0, 1)  farm(0, 1, 9)  frost(0, 12, 5, 12, 0|1) = 1""");
    }

    private static void frostsTerms() {
        edge(29, "in lowest terms: 0 is 0 over 1, 1 is 1 over 1", """
            farms(1)  farm(0, 3, 1)  frost(0, 1, 10, 12, 0) = 0  frost(0, 1, 10, 12, 1) = 1
            frost(0, 99, 5, 12, 1) = 1  frost(0, 0, 5, 12, 1) = 1""");
        edge(29, "in lowest terms: by 2, by 5, by both, by none", """
            farms(1)  farm(0, 3, 1)  frost(0, 1, 4, 1, 0) = 3  frost(0, 1, 4, 1, 1) = 5  frost(0, 1, 5, 1, 0) = 1
            frost(0, 1, 5, 1, 1) = 2  frost(0, 1, 8, 2, 0) = 9  frost(0, 1, 8, 2, 1) = 25  frost(0, 1, 3, 1, 0) = 7
            frost(0, 1, 3, 1, 1) = 10  frost(0, 1, 5, 12, 0) = 4095  frost(0, 1, 5, 12, 1) = 4096
            frost(0, 6, 5, 12, 0) = 1255  frost(0, 6, 5, 12, 1) = 2048
            frost(0, 6, 3, 12, 0) = 480699578471  frost(0, 6, 3, 12, 1) = 500000000000""");
    }

    private static void frostRefuses() {
        edge(29, "UNKNOWN ahead of OUTSIDE", """
            frost(-1|9|min|max, 0, 0, 0, 0|1) = GONE+UNKNOWN  frost(9|-1, 100, 11, 13, 2) = GONE+UNKNOWN
            frost(8, 0, 0, 0, 0|1) = 1  farms(1)  frost(1, 0, 0, 0, 0) = GONE+UNKNOWN  frost(0, 0, 0, 0, 0) = 1""");
        edge(29, "part is 0 or 1", "frost(0, 0, 0, 0, -1|2|min|max) = GONE+OUTSIDE  frost(0, 1, 0, 0, 0) = 0");
    }

    private static void year() {
        edge(30, "hours of each kind, by what is left over by 10", """
            farms(1)  farm(0, 3, 1)  farm(0, 1, 9)
            year(1748, 1, 0) = 0  year(1748, 1, 1) = 20  year(1748, 1, 2) = 1
            year(3495|873, 1, 0) = 9  year(3495|873, 1, 1) = 21  year(3495|873, 1, 2) = 0
            year(2622, 1, 0) = 9  year(2622, 1, 1) = 6  year(2622, 1, 2) = 0
            year(0|1747|3496|874|2621|1, 1, 0) = 9  year(0|1747|3496|874|2621|1, 1, 1) = 11
            year(0|1747|3496|874|2621|1, 1, 2) = 0""");
        edge(30, "some FARM took nothing: a PLUGGED one, one of WIDTH 0, one too high, the last of nine", """
            set(0, 9)  year(0, 1, 2) = 0  set(0, 8)  year(0, 1, 2) = 1  set(0, 99)  farm(0, 4, 1)  year(0, 1, 2) = 1
            year(0, 99, 2) = 99  farm(0, 4, 0)  farm(8, 1, 0)  year(0, 1, 2) = 1  farm(8, 1, 1)  farm(4, 0, 50)
            year(0, 1, 2) = 0  set(0, 54)  year(0, 1, 2) = 1  set(0, 55)  year(0, 1, 2) = 0""");
        edge(30, "an hour in which several took nothing is one", """
            farm(0|1|2, 4, 1)  year(0, 1, 2) = 1  year(0, 2, 2) = 2""");
        edge(30, "PAILS that all take together", """
            set(0, 99)  farm(0|1|2|3|4|5|6|7|8, 1, 9)  year(0, 1, 0) = 81  year(0, 99, 0) = 8019  year(0, 99, 2) = 0
            farm(0|1|2|3|4|5|6|7|8, 4, 1)  year(0, 99, 0) = 0""");
        edge(30, "what goes to the DITCH, in the year alone", """
            farms(1)  farm(0, 1, 0)  set(0, 99)  set(1, 50)  pad "."  done()  told(5) = 99  year(9999, 99, 1) = 10791
            year(0, 1, 1) = 99  set(0, 0)  year(873, 1, 1) = 50  year(0, 1, 1) = 0""");
        edge(30, "as many FARMS as there are now, whatever was asked before", """
            takesIf(8, 8)  farms(2)  year(0, 1, 0) = 2  takesIf(1, 1)  farms(9)  year(0, 1, 0) = 9""");
        edge(30, "COWS drink all at noon, 0 at least", """
            farms(1)  farm(0, 1, 9)  set(2, 50)  set(0, 50)  year(2622, 1, 0|1) = 0  year(2622, 1, 2) = 1  set(0, 49)
            year(2622, 1, 0|1) = 0  set(0, 51)  year(2622, 1, 0) = 1  year(2622, 1, 1) = 0  year(2622, 1, 2) = 0""");
        edge(30, "nothing is DONE, whatever is on the pad", """
            pad "A!"  year(0, 99, 0|1|2)  told(16) = 0  told(5) = 0  told(0) = 2""");
    }

    private static void yearsDraws() {
        edge(30, "the seed is drawn from before the first hour", """
            farms(1)  farm(0, 1, 0)  set(0, 0)  set(1, 1)  year(1, 1, 1) = 0  year(873, 1, 1) = 1""");
        edge(30, "left over by 65537: 75 x and 74 just below it, and above", """
            farms(1)  farm(0, 1, 0)  set(0, 0)  set(1, 1)  year(872, 1, 1) = 0  year(873, 1, 1) = 1
            year(1746, 1, 1) = 0  year(3494, 1, 1) = 0  year(3495, 1, 1) = 1""");
        edge(30, "x of 0 is frosty, and 74 comes of it", """
            farms(1)  farm(0, 3, 1)  year(1327, 24, 2) = 1  year(1327, 25, 2) = 2  year(1327, 26, 2) = 2
            year(1327, 24, 0) = 23  year(1327, 25, 0) = 23  year(1327, 26, 0) = 24""");
        edge(30, "the longest, by the least seed and the greatest", """
            farms(1)  farm(0, 3, 1)  farm(0, 1, 9)  year(0, 99, 0) = 765  year(0, 99, 1) = 1270  year(0, 99, 2) = 14
            year(9999, 99, 0) = 801  year(9999, 99, 1) = 1329  year(9999, 99, 2) = 10
            year(9999, 98, 0) = 792  year(9999, 1, 1) = 21""");
    }

    private static void yearRefuses() {
        edge(30, "the seed is 0 to 9999", "year(-1|10000|65537|min|max, 1, 0) = OUTSIDE  year(0|9999, 1, 0) = 9");
        edge(30, "m is 1 to 99", "year(0, 0|-1|100|min|max, 0) = OUTSIDE  year(0, 1, 2) = 0  year(0, 99, 2) = 0");
        edge(30, "what is 0 to 2", """
            year(0, 1, -1|3|min|max) = OUTSIDE  year(0, 1, 0) = 9  year(0, 1, 1) = 11  year(0, 1, 2) = 0""");
    }

    private static void image() {
        edge(31, "n is 0 or 1; a refused one keeps nothing", """
            image(-1|2|min|max) = OUTSIDE  restore(0|1) = STATE  image(0) = 1  restore(1) = STATE  image(1) = 1
            restore(0|1) = 1  farm(0, 0, 9)  image(-1|2) = OUTSIDE  restore(0) = 1  told(10) = 0""");
        edge(31, "kept anew, what was kept before is gone", """
            farm(0, 0, 3)  image(0) = 1  farm(0, 0, 4)  image(0) = 1  farm(0, 0, 5)  restore(0) = 1  told(10) = 4
            farm(0, 0, 6)  restore(0) = 1  told(10) = 4""");
        edge(31, "two of them, apart", """
            farm(0, 0, 3)  image(0) = 1  farm(0, 0, 4)  image(1) = 1  restore(0) = 1  told(10) = 3  restore(1) = 1
            told(10) = 4  farm(0, 0, 5)  image(1) = 1  restore(0) = 1  told(10) = 3  restore(1) = 1  told(10) = 5""");
        edge(31, "what comes later does not change it", """
            farms(2)  seen(1, 1)  image(0)  farm(1, 0, 50)  set(0, 99)  seen(0, 9)  pad "."  done()  farms(9)
            restore(0) = 1  told(1) = 2  told(20) = 0  told(2) = 20  told(5) = 0  told(6) = 1  leak(-1) = 18""");
    }

    private static void restore() {
        edge(32, "STATE: it was not kept; OUTSIDE ahead of it", """
            restore(-1|2|min|max) = OUTSIDE  restore(0|1) = STATE  image(1)  restore(0) = STATE  restore(1) = 1
            restore(-1|2) = OUTSIDE""");
        edge(32, "all but the PAD: FARMS, SPRING, RAIN, COWS, DITCH, SIGHTS", """
            farms(2)  farm(1, 0, 50)  farm(1, 1, 9)  farm(1, 2, 99)  farm(1, 3, 1)  farm(1, 4, 1)  farm(1, 5, 9)
            farm(1, 6, 999)  set(0, 99)  set(1, 50)  set(2, 49)  pad "."  done()  seen(0, 1|1|1|1|1|1|1|1)  image(0)
            pad "A!"  set(0, 0)  set(1, 0)  set(2, 0)  farms(9)  restore(0) = 1
            told(1) = 2  told(2) = 99  told(3) = 50  told(4) = 49  told(5) = 89  told(6) = 8
            told(20) = 50  told(21) = 9  told(22) = 99  told(23) = 1  told(24) = 1  told(25) = 9  told(26) = 999
            told(16) = 1  told(30) = OUTSIDE  seen(0, 1) = FULL  leak(-1) = 9  told(0) = 2  fault() = 1""");
        edge(32, "SIGHTS: of which FARM, how many it took", """
            farms(2)  set(0, 1)  seen(1, 0)  image(0)  forget()  seen(1, 9)  leak(-1) = 0  restore(0) = 1  leak(-1) = 18
            forget()  seen(0, 0)  leak(-1) = 9  restore(0) = 1  leak(-1) = 18""");
        edge(32, "the PAD stays as it is, full or empty", """
            pad "A."  image(0)  pad "............................................................"  restore(0) = 1
            told(0) = 60  judge(2) = 60  wipe()  restore(0) = 1  told(0) = 0""");
        edge(32, "again and again, in the midst of other calls", """
            image(0)  pad "."  done()  restore(0) = 1  told(5) = 0  pad "."  done()  told(5) = 11  restore(0) = 1
            told(5) = 0  farms(1)  restore(0) = 1  told(1) = 9""");
        edge(32, "of PAILS above 999", """
            farm(0, 6, 999)  pad ".."  done()  image(0)  farm(0, 6, 0) = 1001  restore(0) = 1  told(16) = 1001""");
    }

    private static void told() {
        edge(33, "0 to 6", """
            told(0) = 0  told(1) = 9  told(2) = 20  told(3) = 10  told(4) = 5  told(5) = 0  told(6) = 0
            told(-1|7|8|9|min|max) = OUTSIDE""");
        edge(33, "at their greatest", """
            set(0, 99)  set(1, 50)  set(2, 50)  seen(0, 0|0|0|0|0|0|0|0)
            pad "............................................................"
            told(0) = 60  told(2) = 99  told(3) = 50  told(4) = 50  told(6) = 8""");
        edge(33, "of a FARM 0 to 6", """
            farm(8, 0, 50)  farm(8, 1, 9)  farm(8, 2, 99)  farm(8, 3, 1)  farm(8, 4, 1)  farm(8, 5, 9)  farm(8, 6, 999)
            told(90) = 50  told(91) = 9  told(92) = 99  told(93|94) = 1  told(95) = 9  told(96) = 999
            told(97|98|99) = OUTSIDE  told(17|18|19) = OUTSIDE  told(10) = 0""");
        edge(33, "of a FARM that there is not", """
            told(96) = 0  told(100|106|110) = OUTSIDE  farms(1)  told(10|16) = 0  told(20|26|96) = OUTSIDE  farms(8)
            told(80) = 0  told(90|96) = OUTSIDE""");
        edge(33, "below 0 there is nothing", "told(-10|-9|-4|-2|-11|-20) = OUTSIDE");
    }

    private EdgesOfYears() {
    }
}
