/** The edges of promises 8 to 15. */
final class EdgesOfHours {
    static void run() {
        judge();
        judgeRefuses();
        behind();
        ditch();
        done();
        first();
        takes();
        takesIf();
        robbed();
    }

    private static void edge(int promise, String title, String text) {
        Script.edge("promise " + promise + ": " + title, text);
    }

    private static void judge() {
        edge(8, "of an empty pad: no part, no hour", "judge(0) = NONE  judge(1) = NONE  judge(2) = 0");
        edge(8, "the part from 0 on, two signs are one part", """
            pad "A<"  judge(0) = 0  pad ".A<"  judge(0) = 1  pad "B>A<"  judge(0) = 1  pad "B>BwAA.A<"  judge(0) = 5
            pad "AA<"  judge(0) = 1""");
        edge(8, "the last of 60 signs", """
            pad "..........................................................A<"  judge(0) = 58  judge(1) = 1
            pad "..........................................................A>"  judge(0) = NONE  judge(2) = 58
            pad "B>B>B>B>B>B>B>B>B>B>B>B>B>B>B>B>B>B>B>B>B>B>B>B>B>B>B>B>B>A<"  judge(0) = 29""");
        edge(8, "the first, if several can not be", """
            farm(1, 1, 9)  pad "A<Bw"  judge(0) = 0  judge(1) = 1  pad "BwA<"  judge(0) = 0  judge(1) = 2
            pad ".A<A<"  judge(0) = 1""");
        edge(8, "HEIGHT and WIDTH as the parts ahead have made them", """
            pad "A>A<"  judge(0) = NONE  pad "A>A<A<"  judge(0) = 2  judge(1) = 1
            farm(0, 0, 49)  pad "A>A<A>A>"  judge(0) = 3  farm(0, 1, 7)  pad "AwAwAw"  judge(0) = 2  judge(1) = 2
            pad "AwAwBw"  judge(0) = NONE""");
        edge(8, "from the least hole to the greatest", """
            pad "AwAwAwAwAwAwAwAw"  judge(0) = NONE  behind(0, 2) = 9  pad "AwAwAwAwAwAwAwAwAw"  judge(0) = 8
            farm(0, 0, 30)  pad "A<A<A<A<A<A<A<A<A<A<A<A<A<A<A<A<A<A<A<A<A<A<A<A<A<A<A<A<A<A<"  judge(0) = NONE
            behind(0, 1) = 0  farm(0, 0, 29)  judge(0) = 29  judge(1) = 1""");
        edge(8, "hours of each kind, and of no other part", """
            pad "."  judge(2) = 1  pad "n*+."  judge(2) = 4  pad "AB>Cw"  judge(2) = 0  pad "A.A"  judge(2) = 1
            pad "............................................................"  judge(2) = 60""");
    }

    private static void judgeRefuses() {
        edge(8, "OUTSIDE: what is 0 to 2", "judge(-1|3|4|min|max) = OUTSIDE");
        edge(8, "NO: there is a FAULT, ahead of a part or behind it", """
            pad "!"  judge(0|1|2) = NO  pad ".!"  judge(0|1|2) = NO  pad "A<!"  judge(0|1|2) = NO
            pad "!A<"  judge(0|1|2) = NO""");
        edge(8, "STATE, of hours alone: some PART can not be", """
            pad "A<"  judge(2) = STATE  judge(0) = 0  judge(1) = 1  pad "..A<"  judge(2) = STATE  judge(0) = 2
            pad "A>"  judge(2) = 0""");
        edge(8, "NO: as many FARMS as there are now, whatever was asked before", """
            takesIf(8, 8)  farms(2)  pad "C"  judge(0) = NO  takesIf(1, 1)  farms(9)  judge(0) = NONE""");
        edge(8, "OUTSIDE ahead of NO, NO ahead of STATE", """
            pad "A<!"  judge(-1|3) = OUTSIDE  judge(2) = NO  pad "A<"  judge(-1|3) = OUTSIDE""");
    }

    private static void behind() {
        edge(9, "of an empty DAY, as it is now", """
            farm(8, 6, 999)  farm(8, 0, 50)  farm(8, 1, 0)  farm(8, 4, 1)
            behind(8, 0) = 999  behind(8, 1) = 50  behind(8, 2) = 0  behind(8, 3) = 1
            behind(0, 0) = 0  behind(0, 1) = 0  behind(0, 2) = 1  behind(0, 3) = 0""");
        edge(9, "PAILS above 999", """
            farm(0, 6, 999)  farm(0, 1, 9)  pad "."  behind(0, 0) = 1008
            pad "............................................................"  behind(0, 0) = 1539""");
        edge(9, "what is 0 to 3", "behind(0, -1|4|5|6|min|max) = OUTSIDE  behind(0, 0|1|3) = 0  behind(0, 2) = 1");
        edge(9, "UNKNOWN, the first farm and the last", """
            behind(-1|9|min|max, 0) = UNKNOWN  behind(8, 0) = 0  farms(1)  behind(1|-1, 0) = UNKNOWN
            behind(0, 0) = 0""");
        edge(9, "UNKNOWN ahead of OUTSIDE, these ahead of NO and STATE", """
            behind(9, 4) = UNKNOWN  pad "A<"  behind(9, 0) = UNKNOWN  behind(9, 4) = UNKNOWN  behind(0, 4) = OUTSIDE
            behind(0, 0|1|2|3) = STATE  pad "A<!"  behind(9, 0|4) = UNKNOWN  behind(0, -1|4) = OUTSIDE
            behind(0, 0|1|2|3) = NO  pad "!"  behind(0, 0) = NO""");
        edge(9, "a part in the middle changes the hours behind it alone", """
            pad ".A."  behind(0, 0) = 1  pad "A.A"  behind(0, 0) = 0  behind(0, 3) = 0  pad ".Aw."  behind(0, 0) = 3
            farm(0, 0, 19)  farm(0, 1, 9)  pad ".A<.A<."  behind(0, 0) = 6  pad ".A>."  behind(0, 0) = 1""");
    }

    private static void ditch() {
        edge(10, "of an empty DAY, what is in it", "ditch() = 0  pad \".\"  done()  ditch() = 11");
        edge(10, "in all: behind the DAY and before it", """
            pad "."  ditch() = 11  done() = 1  pad "."  ditch() = 22  told(5) = 11  pad ".."  ditch() = 33""");
        edge(10, "an hour that leaves none, and one that leaves all", """
            farms(1)  farm(0, 1, 9)  set(0, 9)  pad "."  ditch() = 0  set(0, 10)  ditch() = 1  farm(0, 4, 1)
            ditch() = 10  set(0, 0)  ditch() = 0""");
        edge(10, "parts that are no hours leave nothing", "pad \"ABA>CwAB\"  ditch() = 0");
        edge(10, "STATE; NO ahead of it", """
            pad "A<"  ditch() = STATE  pad "A<!"  ditch() = NO  pad "!"  ditch() = NO""");
    }

    private static void done() {
        edge(11, "of an empty DAY: 0 parts", "done() = 0  done() = 0  told(5) = 0  told(16) = 0");
        edge(11, "PARTS, two signs are one; the PAD is empty then", """
            pad "AB>Cw."  done() = 4  told(0) = 0  done() = 0  wipe() = 0  fault() = NONE  judge(2) = 0
            told(14) = 1  told(20) = 1  told(31) = 2  told(36) = 2""");
        edge(11, "60 parts, and 60 signs of 30", """
            pad "............................................................"  done() = 60  told(0) = 0  told(16) = 60
            pad "A>A>A>A>A>A>A>A>A>A>A>A>A>A>A>A>A>A>A>A>A>A>A>A>A>A>A>A>A>A>"  done() = 30  told(10) = 30""");
        edge(11, "it is so then: PAILS, HEIGHT, WIDTH, PLUGGED, DITCH; the rest stays", """
            farms(1)  farm(0, 2, 9)  farm(0, 3, 1)  farm(0, 5, 2)  farm(0, 6, 7)  seen(0, 4)  image(0)
            pad ".A>AwA+"  done() = 5
            told(10) = 1  told(11) = 2  told(12) = 9  told(13) = 1  told(14) = 1  told(15) = 2  told(16) = 8
            told(1) = 1  told(2) = 20  told(3) = 10  told(4) = 5  told(5) = 45  told(6) = 1
            restore(0) = 1  told(16) = 7  told(5) = 0""");
        edge(11, "to the edges and back", """
            farm(0, 0, 49)  farm(1, 0, 1)  farm(2, 1, 8)  pad "A>B<Cw"  done() = 3  told(10) = 50  told(20) = 0
            told(31) = 9  pad "A>"  done() = STATE  pad "B<"  done() = STATE  pad "Cw"  done() = STATE
            pad "A<B>"  done() = 2  told(10) = 49  told(20) = 1""");
        edge(11, "STATE; NO ahead of it; then nothing is done and the PAD stays", """
            pad ".A<"  done() = STATE  told(0) = 3  told(16) = 0  told(5) = 0  pad ".A<!"  done() = NO  told(0) = 4
            told(16) = 0  pad ".!"  done() = NO  told(0) = 2  told(5) = 0""");
    }

    private static void first() {
        edge(12, "0: it has them now; as many as it WANTS, one fewer", """
            farms(1)  farm(0, 6, 5)  first(0) = 0  farm(0, 6, 6)  first(0) = 0  farm(0, 6, 4)  first(0) = NONE
            pad "."  first(0) = 1  farm(0, 6, 5)  first(0) = 0  farm(0, 6, 999)  first(0) = 0""");
        edge(12, "WANTS nothing: 0", "farms(1)  farm(0, 2, 0)  first(0) = 0  pad \"..\"  first(0) = 0");
        edge(12, "NONE: by none, the last hour is one too few", """
            farms(1)  pad "...."  first(0) = NONE  pad "....."  first(0) = 5  pad "......"  first(0) = 5""");
        edge(12, "hours from 1 on, of each kind; other parts are none", """
            farms(2)  farm(0, 1, 5)  pad "."  first(0) = 1  pad "n"  first(0) = 1  pad "*"  first(0) = 1
            pad "+"  first(0) = 1  pad "BB>Bw."  first(0) = 1  pad ".BB.B"  first(0) = 1  pad "AA."  first(0) = 1
            pad "A.A."  first(0) = 2  pad "AB>"  first(0) = NONE""");
        edge(12, "hours by which it took nothing are hours", """
            farms(1)  farm(0, 1, 5)  farm(0, 3, 1)  pad "**."  first(0) = 3  pad "**"  first(0) = NONE""");
        edge(12, "the 60th hour", """
            farms(1)  farm(0, 2, 60)
            pad "............................................................"  first(0) = 60
            farm(0, 2, 61)  first(0) = NONE  farm(0, 6, 1)  first(0) = 60""");
        edge(12, "more than it WANTS in one hour", "farms(1)  farm(0, 1, 9)  pad \".\"  first(0) = 1");
        edge(12, "UNKNOWN ahead of NO and STATE, NO ahead of STATE", """
            first(-1|9|min|max) = UNKNOWN  first(8) = NONE  pad "A<"  first(9) = UNKNOWN  first(0) = STATE
            pad "A<!"  first(9) = UNKNOWN  first(0) = NO  pad "!"  first(0) = NO  farms(1)  first(1) = UNKNOWN""");
        edge(12, "refused also if it has them now", """
            farm(0, 2, 0)  pad "A<"  first(0) = STATE  pad "!"  first(0) = NO""");
    }

    private static void takes() {
        edge(13, "what is 0 or 1", "takes(0, -1|2|min|max) = OUTSIDE  takes(0, 0) = 1  takes(0, 1) = 20");
        edge(13, "UNKNOWN ahead of OUTSIDE", """
            takes(-1|9|min|max, 0) = UNKNOWN  takes(-1|9, 2|-1) = UNKNOWN  takes(8, 0) = 1  takes(8, 1) = 12
            farms(1)  takes(1, 0) = UNKNOWN  takes(0, 0) = 1""");
        edge(13, "a plain hour: no rain, no cows, no frost", """
            farms(1)  set(1, 50)  set(2, 50)  farm(0, 3, 1)  takes(0, 1) = 20  takes(0, 0) = 1""");
        edge(13, "as all is now, whatever is on the pad", """
            pad "A"  takes(0, 0) = 1  pad "!"  takes(0, 0) = 1  pad "A<"  takes(0, 0) = 1  pad "A"  done()
            takes(0, 0) = 0""");
        edge(13, "LEVEL of a farm that takes none", """
            farms(2)  farm(0, 4, 1)  takes(0, 1) = 20  farm(0, 5, 9)  takes(0, 1) = 11  farm(1, 0, 11)
            takes(1, 1) = 11  takes(1, 0) = 0  farm(1, 0, 50)  takes(1, 1) = 11""");
    }

    private static void takesIf() {
        edge(14, "UNKNOWN: both", """
            farms(2)  takesIf(2|-1|min|max, 0) = UNKNOWN  takesIf(0, 2|-1|min|max) = UNKNOWN
            takesIf(2|-1, 2|-1) = UNKNOWN  takesIf(1, 0) = 1  takesIf(0, 1) = 1""");
        edge(14, "the first farm and the last of nine", """
            set(0, 8)  takes(8, 0) = 0  takesIf(8, 0) = 1  takesIf(8, 7) = 1  takesIf(0, 8) = 1
            takesIf(8, 9) = UNKNOWN  takesIf(9, 8) = UNKNOWN""");
        edge(14, "or not, if it is", """
            farms(2)  set(0, 9)  farm(0, 1, 9)  farm(1, 1, 9)  takes(1, 0) = 0  takesIf(1, 0) = 9  farm(0, 4, 1)
            takes(1, 0) = 9  takesIf(1, 0) = 0  told(14) = 1""");
        edge(14, "a farm below takes nothing from one above", """
            farms(2)  farm(0, 1, 9)  takesIf(0, 1) = 9  farm(1, 4, 1)  takesIf(0, 1) = 9""");
        edge(14, "a farm and itself", """
            farms(1)  takesIf(0, 0) = 0  farm(0, 4, 1)  takesIf(0, 0) = 1  told(14) = 1""");
        edge(14, "a plain hour: NORTH is nothing to it", """
            farms(2)  farm(0|1, 3, 1)  takesIf(1, 0) = 1  takesIf(0, 1) = 1""");
        edge(14, "one PLUGGED stays so, if another were", "farms(2)  farm(1, 4, 1)  takesIf(1, 0) = 0");
        edge(14, "the log of one that were PLUGGED LEAKS still", """
            farms(2)  set(0, 9)  farm(0, 5, 9)  farm(1, 1, 9)  takesIf(1, 0) = 0  farm(0, 5, 8)  takesIf(1, 0) = 1
            takes(1, 0) = 0""");
    }

    private static void robbed() {
        edge(15, "UNKNOWN", "robbed(-1|9|min|max) = UNKNOWN  farms(1)  robbed(1) = UNKNOWN  robbed(0) = 0");
        edge(15, "none: there is enough, or it takes nothing", """
            robbed(0) = 0  set(0, 8)  farm(3, 1, 0)  robbed(3) = 0  set(0, 0)  robbed(0) = 0""");
        edge(15, "none: it is PLUGGED as it is", "farms(2)  set(0, 1)  robbed(0) = 2  farm(0, 4, 1)  robbed(0) = 0");
        edge(15, "never itself, never one above", """
            farms(3)  set(0, 3)  farm(1, 1, 2)  farm(2, 1, 9)  takes(2, 0) = 0  robbed(1) = 4  robbed(2) = 0""");
        edge(15, "more by one pail, or as much", """
            farms(2)  farm(1, 1, 5)  set(0, 6)  takes(1, 0) = 5  robbed(0) = 0  set(0, 5)  takes(1, 0) = 4
            robbed(0) = 2""");
        edge(15, "a plain hour: NORTH is nothing to it", """
            farms(2)  farm(0|1, 3, 1)  robbed(0) = 0  set(0, 1)  robbed(0) = 2""");
        edge(15, "as bits, up to the ninth farm", """
            set(0, 8)  robbed(0) = 256  set(0, 9)  robbed(0) = 0
            set(0, 9)  farm(0, 1, 9)  robbed(0) = 510  farms(8)  farm(0, 1, 9)  robbed(0) = 254""");
        edge(15, "FARMS that are PLUGGED, or too high, or wide as 0 are not robbed", """
            farms(4)  set(0, 9)  farm(0, 1, 9)  farm(1, 4, 1)  farm(2, 0, 9)  farm(3, 1, 0)  robbed(0) = 0
            farm(2, 0, 8)  robbed(0) = 4  farm(1, 4, 0)  farm(2, 0, 7)  robbed(0) = 6  farm(3, 1, 1)  robbed(0) = 14
            """);
    }

    private EdgesOfHours() {
    }
}
