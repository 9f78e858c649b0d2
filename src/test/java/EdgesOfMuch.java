/** The edges of promises 16 to 22. */
final class EdgesOfMuch {
    static void run() {
        hours();
        spring();
        springsBounds();
        narrow();
        narrowRefuses();
        highest();
        bored();
        boredNoLess();
        boredRefuses();
        fair();
        dry();
    }

    private static void edge(int promise, String title, String text) {
        Script.edge("promise " + promise + ": " + title, text);
    }

    private static void hours() {
        edge(16, "0: all have what they WANT, as many, more, or WANT none", """
            farms(3)  farm(0, 6, 5)  farm(1, 6, 6)  farm(2, 2, 0)  hours() = 0  farm(0, 6, 4)  hours() = 1
            farm(0, 4, 1)  hours() = NONE  farm(0, 6, 5)  hours() = 0""");
        edge(16, "what is left over takes one hour more", """
            farms(1)  farm(0, 2, 8)  farm(0, 1, 4)  hours() = 2  farm(0, 2, 9)  hours() = 3  farm(0, 2, 7)  hours() = 2
            farm(0, 2, 4)  hours() = 1  farm(0, 2, 5)  hours() = 2  farm(0, 2, 1)  hours() = 1""");
        edge(16, "99 hours", "farms(1)  farm(0, 2, 99)  hours() = 99  farm(0, 6, 1)  hours() = 98");
        edge(16, "till all have: the slowest", """
            farms(3)  farm(0, 2, 3)  farm(1, 2, 7)  farm(2, 2, 6)  hours() = 7  farm(1, 1, 9)  hours() = 6""");
        edge(16, "NONE: one that takes nothing lacks a pail", """
            farms(2)  farm(1, 1, 0)  hours() = NONE  farm(1, 6, 4)  hours() = NONE  farm(1, 6, 5)  hours() = 5
            farm(1, 1, 1)  farm(1, 6, 0)  farm(1, 0, 19)  hours() = NONE  farm(1, 0, 18)  hours() = 5
            set(0, 0)  hours() = NONE""");
        edge(16, "plain hours, whatever is on the pad", """
            farms(1)  farm(0, 3, 1)  set(2, 50)  pad "A*n"  hours() = 5  pad "!"  hours() = 5""");
    }

    private static void spring() {
        edge(17, "m is 1 to 24", """
            farms(1)  spring(0|-1|25|min|max) = OUTSIDE  farm(0, 2, 1)  spring(1) = 1  spring(24) = 1
            farm(0, 2, 24)  spring(24) = 1  spring(23) = NONE  farm(0, 2, 25)  spring(24) = NONE""");
        edge(17, "in m hours: just so many pails, one more", """
            farms(1)  farm(0, 1, 9)  farm(0, 2, 6)  spring(2) = 3  spring(3) = 2  farm(0, 2, 7)  spring(2) = 4
            spring(3) = 3  spring(1) = 7""");
        edge(17, "PAILS that they have now, too", """
            farms(1)  farm(0, 1, 9)  farm(0, 6, 4)  spring(1) = 1  farm(0, 6, 5)  spring(1) = 0  farm(0, 6, 999)
            spring(1) = 0  farm(0, 6, 3)  spring(1) = 2  spring(2) = 1""");
        edge(17, "plain hours: NORTH is nothing to it", "farms(1)  farm(0, 3, 1)  spring(5) = 1  spring(4) = NONE");
        edge(17, "whatever the SPRING gives now", """
            farms(1)  set(0, 99)  spring(5) = 1  set(0, 0)  spring(5) = 1  told(2) = 0""");
        edge(17, "OUTSIDE also if there is none", "farm(0, 4, 1)  spring(25|0) = OUTSIDE  spring(24) = NONE");
    }

    private static void springsBounds() {
        edge(17, "the least is 0", "farms(1)  farm(0, 2, 0)  spring(1) = 0  farm(0, 4, 1)  spring(1) = 0");
        edge(17, "the most is 99", """
            farms(6)  farm(0|1|2|3|4, 1, 9)  farm(0|1|2|3|4, 2, 0)  farm(5, 0, 50)  farm(5, 1, 9)  farm(5, 2, 4)
            spring(1) = 99  farm(5, 2, 5)  spring(1) = NONE  spring(2) = 98  farm(5, 2, 3)  spring(1) = 98""");
        edge(17, "NONE: WIDTHS or plugs do not let them", """
            farms(2)  farm(1, 1, 0)  spring(24) = NONE  farm(1, 1, 1)  spring(24) = 2  farm(0, 4, 1)  spring(24) = NONE
            farm(0, 2, 0)  spring(24) = 1""");
    }

    private static void narrow() {
        edge(18, "each as little as can be, 0 too", """
            farms(3)  farm(0, 6, 5)  farm(1, 6, 4)  farm(2, 6, 999)  narrow(1, -1) = 1  narrow(1, 0) = 0
            narrow(1, 1) = 1  narrow(1, 2) = 0  farm(1, 6, 5)  narrow(1, -1) = 0  narrow(24, 1) = 0""");
        edge(18, "NONE: WIDTHS to 9 do not do", """
            farms(2)  set(0, 99)  farm(0, 2, 9)  narrow(1, 0) = 9  narrow(1, -1) = 14  farm(0, 2, 10)
            narrow(1, 0) = NONE  narrow(1, 1) = NONE  narrow(1, -1) = NONE  narrow(2, 0) = 5
            farm(0, 2, 99)  narrow(11, 0) = 9  narrow(10, 0) = NONE  narrow(24, 0) = 5""");
        edge(18, "in m hours: just so many pails, one more", """
            farms(1)  farm(0, 2, 96)  narrow(24, 0) = 4  farm(0, 2, 97)  narrow(24, 0) = 5  farm(0, 2, 1)
            narrow(24, 0) = 1  narrow(1, 0) = 1  farm(0, 2, 6)  narrow(2, 0) = 3  narrow(3, 0) = 2  narrow(4, 0) = 2
            """);
        edge(18, "WIDTHS as they are now are nothing to it", """
            farms(2)  farm(0, 1, 0)  farm(1, 1, 0)  narrow(1, -1) = 10  farm(0, 1, 9)  farm(1, 1, 9)
            narrow(1, -1) = 10  set(0, 10)  narrow(1, -1) = 10  narrow(1, 1) = 5  told(11) = 9""");
        edge(18, "NONE: the water does not do, by one", """
            farms(2)  set(0, 10)  narrow(1, -1) = 10  set(0, 9)  narrow(1, -1) = NONE  narrow(1, 0) = NONE
            set(0, 10)  farm(1, 5, 1)  narrow(1, -1) = NONE  set(0, 11)  narrow(1, -1) = 10""");
        edge(18, "plain hours: NORTH is nothing to it", "farms(1)  farm(0, 3, 1)  narrow(5, 0) = 1  narrow(1, -1) = 5");
        edge(18, "HEIGHTS as they are", """
            farms(1)  farm(0, 0, 15)  narrow(1, 0) = 5  farm(0, 0, 16)  narrow(1, 0) = NONE  narrow(2, 0) = 3
            narrow(24, 0) = 1  farm(0, 0, 20)  narrow(24, 0) = NONE""");
        edge(18, "the greatest sum, 81", """
            set(0, 81)  farm(0|1|2|3|4|5|6|7|8, 2, 9)  narrow(1, -1) = 81  narrow(1, 8) = 9  set(0, 80)
            narrow(1, -1) = NONE  narrow(3, -1) = 27""");
        edge(18, "a PLUGGED farm: NONE if it lacks a pail, else 0", """
            farms(2)  farm(0, 4, 1)  narrow(24, -1) = NONE  farm(0, 6, 4)  narrow(24, 1) = NONE  farm(0, 6, 5)
            narrow(24, -1) = 1  narrow(24, 0) = 0""");
    }

    private static void narrowRefuses() {
        edge(18, "farm is -1 for the sum, else a FARM's", """
            farms(2)  narrow(5, -1) = 2  narrow(5, 0) = 1  narrow(5, 1) = 1  narrow(5, 2|-2|min|max) = UNKNOWN""");
        edge(18, "m is 1 to 24", """
            narrow(0|-1|25|min|max, -1|0) = OUTSIDE  farms(1)  farm(0, 2, 1)  narrow(1|24, 0) = 1""");
        edge(18, "as many FARMS as there are now, whatever was asked before", """
            takesIf(8, 8)  farms(2)  narrow(5, 2) = UNKNOWN  takesIf(1, 1)  farms(9)  narrow(5, 8) = 1""");
        edge(18, "UNKNOWN ahead of OUTSIDE", "narrow(0|25, 9|-2) = UNKNOWN  narrow(0|25, 8) = OUTSIDE");
        edge(18, "refused also if there is none", """
            set(0, 0)  narrow(1, 9) = UNKNOWN  narrow(0, 0) = OUTSIDE  narrow(1, 0) = NONE""");
    }

    private static void highest() {
        edge(19, "at most 50, though it might be higher", """
            farms(1)  farm(0, 2, 1)  set(0, 50)  highest(0, 1) = 49  set(0, 51)  highest(0, 1) = 50  set(0, 52)
            highest(0, 1) = 50  farm(0, 2, 0)  set(0, 0)  highest(0, 1) = 50""");
        edge(19, "0 at least; NONE", """
            farms(1)  farm(0, 2, 1)  set(0, 1)  highest(0, 1) = 0  set(0, 2)  highest(0, 1) = 1  set(0, 0)
            highest(0, 1) = NONE  highest(0, 24) = NONE""");
        edge(19, "m is 1 to 24", """
            farms(1)  highest(0, 0|-1|25|min|max) = OUTSIDE  farm(0, 2, 1)  highest(0, 1) = 19  highest(0, 24) = 19
            farm(0, 2, 24)  highest(0, 24) = 19  highest(0, 23) = NONE  farm(0, 2, 25)  highest(0, 24) = NONE""");
        edge(19, "UNKNOWN ahead of OUTSIDE", """
            highest(9|-1|min|max, 1) = UNKNOWN  highest(9|-1, 0|25) = UNKNOWN  highest(8, 5) = 11  farms(1)
            highest(1, 5) = UNKNOWN  highest(0, 5) = 19""");
        edge(19, "in m hours: just so many pails, one more", """
            farms(1)  farm(0, 1, 9)  farm(0, 2, 6)  highest(0, 2) = 17  highest(0, 3) = 18  farm(0, 2, 7)
            highest(0, 2) = 16  highest(0, 1) = 13""");
        edge(19, "plain hours: NORTH is nothing to it", "farms(1)  farm(0, 3, 1)  highest(0, 5) = 19");
        edge(19, "whatever the HEIGHT is now", """
            farms(1)  farm(0, 0, 50)  highest(0, 5) = 19  farm(0, 0, 0)  highest(0, 5) = 19  told(10) = 0""");
        edge(19, "all have what they WANT, not this one alone", """
            farms(2)  farm(0, 1, 9)  set(0, 10)  farm(0, 2, 1)  farm(1, 2, 1)  highest(0, 1) = 9
            farm(1, 2, 5)  highest(0, 1) = NONE  highest(0, 5) = 9  farm(1, 4, 1)  highest(0, 24) = NONE""");
        edge(19, "the greatest by which it is so; by a lower one it need not be", """
            farms(2)  set(0, 10)  farm(0, 1, 9)  farm(1, 0, 5)  farm(0, 2, 1)  farm(1, 2, 1)  hours() = NONE
            highest(0, 1) = 9  farm(0, 0, 9)  hours() = 1  farm(0, 0, 6)  hours() = 1  farm(0, 0, 5)  hours() = NONE
            """);
        edge(19, "it has what it WANTS: 50, if its water must not be taken", """
            farms(2)  set(0, 9)  farm(0, 6, 5)  farm(0, 1, 9)  farm(1, 1, 9)  farm(1, 2, 9)  highest(0, 1) = 50
            set(0, 8)  highest(0, 1) = NONE""");
    }

    private static void bored() {
        edge(20, "ahead of FARM 0", "farms(2)  bored(0, 9, 0) = 0  bored(0, 9, 1) = 9  bored(0, 1, 0) = 0");
        edge(20, "behind the last", """
            farms(2)  set(0, 3)  bored(0, 9, 0) = 2  bored(0, 9, 1) = 1  set(0, 2)  bored(0, 9, 0|1) = NONE""");
        edge(20, "between, since those behind it have no holes so high", """
            farms(2)  set(0, 10)  farm(0, 0, 8)  farm(0, 1, 2)  bored(0, 7, 0) = 1  bored(0, 7, 1) = 7
            bored(0, 8, 0) = 2  bored(0, 8, 1) = 7  bored(1, 8, 0) = 1  bored(1, 8, 1) = 7""");
        edge(20, "the first place of those where it takes as much", """
            farms(8)  set(0, 99)  bored(0, 9, 0) = 0  bored(0, 9, 1) = 9  farm(0|1|2, 4, 1)  set(0, 7)
            bored(0, 9, 0) = 8  bored(0, 9, 1) = 2  farm(3|4|5|6|7, 4, 1)  bored(0, 9, 0) = 0  bored(0, 9, 1) = 7""");
        edge(20, "NONE: it would take nothing", """
            farms(2)  bored(0, 0, 0|1) = NONE  bored(19, 9, 0) = 0  bored(19, 9, 1) = 1  bored(20, 9, 0|1) = NONE
            bored(50, 9, 0|1) = NONE  set(0, 50)  bored(50, 9, 0|1) = NONE  set(0, 51)  bored(50, 9, 1) = 1
            set(0, 0)  bored(0, 9, 0|1) = NONE""");
        edge(20, "its log LEAKS nothing", """
            farms(1)  set(0, 9)  farm(0, 5, 9)  bored(0, 9, 0) = 0  bored(0, 9, 1) = 9  farm(0, 5, 8)
            bored(0, 9, 0|1) = NONE  set(0, 10)  bored(0, 9, 0) = 1  bored(0, 9, 1) = 1""");
        edge(20, "the new one is neither PLUGGED nor NORTH, the others are as they were", """
            farms(1)  farm(0, 4, 1)  farm(0, 3, 1)  bored(0, 9, 0) = 0  bored(0, 9, 1) = 9  told(1) = 1  told(14) = 1
            told(20) = OUTSIDE""");
    }

    private static void boredNoLess() {
        edge(20, "each other FARM no less: as much will do, one pail less will not", """
            farms(1)  farm(0, 1, 9)  set(0, 10)  bored(0, 1, 0) = 0  bored(0, 2, 0) = 1  bored(0, 2, 1) = 1
            set(0, 9)  bored(0, 1, 0|1) = NONE""");
        edge(20, "a FARM far behind is not to have less either", """
            farms(8)  set(0, 9)  bored(0, 1, 0) = 0  bored(0, 2, 0) = 8  bored(0, 2, 1) = 1  set(0, 8)
            bored(0, 1, 0) = NONE  farm(7, 4, 1)  bored(0, 1, 0) = 0  bored(0, 2, 0) = 7  bored(0, 2, 1) = 1""");
        edge(20, "a plain hour: NORTH farms are not to have less", """
            farms(1)  farm(0, 3, 1)  farm(0, 1, 9)  set(0, 10)  bored(0, 1, 0) = 0  bored(0, 2, 0) = 1""");
        edge(20, "FARMS that take nothing now have no less", """
            farms(3)  set(0, 5)  farm(0|1|2, 0, 5)  bored(0, 5, 0) = 0  bored(0, 9, 1) = 5  bored(5, 9, 0) = NONE""");
    }

    private static void boredRefuses() {
        edge(20, "HEIGHT is 0 to 50", """
            farms(1)  bored(-1|51|min|max, 1, 0) = OUTSIDE  set(0, 99)  bored(0|50, 1, 0) = 0""");
        edge(20, "WIDTH is 0 to 9", """
            farms(1)  bored(0, -1|10|min|max, 1) = OUTSIDE  bored(0, 0, 1) = NONE  bored(0, 9, 1) = 9""");
        edge(20, "what is 0 or 1", """
            farms(1)  bored(0, 1, -1|2|min|max) = OUTSIDE  bored(0, 1, 0) = 0  bored(0, 1, 1) = 1""");
        edge(20, "STATE: there are nine", """
            bored(0, 1, 0|1) = STATE  bored(50, 0, 0) = STATE  farms(8)  bored(0, 1, 0) = 0  bored(0, 9, 0) = 0
            farms(1)  bored(0, 9, 0) = 0  farms(9)  bored(0, 1, 0) = STATE""");
        edge(20, "OUTSIDE ahead of STATE", """
            bored(-1|51, 1, 0) = OUTSIDE  bored(0, 10|-1, 0) = OUTSIDE  bored(0, 1, 2) = OUTSIDE""");
    }

    private static void fair() {
        edge(21, "0 to 9", """
            farms(1)  set(0, 0)  fair() = 0  set(0, 1)  fair() = 1  set(0, 8)  fair() = 8  set(0, 9)  fair() = 9
            set(0, 10)  fair() = 9  set(0, 99)  fair() = 9""");
        edge(21, "just so much water, one pail less", """
            farms(3)  set(0, 6)  fair() = 2  set(0, 5)  fair() = 1  set(0, 3)  fair() = 1  set(0, 2)  fair() = 0
            set(0, 27)  fair() = 9  set(0, 26)  fair() = 8  farms(9)  set(0, 81)  fair() = 9  set(0, 80)  fair() = 8
            set(0, 8)  fair() = 0""");
        edge(21, "all PLUGGED: 9; one that is not", """
            farms(2)  farm(0|1, 4, 1)  fair() = 9  set(0, 0)  fair() = 9  farm(1, 4, 0)  fair() = 0  set(0, 4)
            fair() = 4  farm(0, 4, 0)  fair() = 2""");
        edge(21, "a plain hour: NORTH is nothing to it", "farms(1)  farm(0, 3, 1)  fair() = 9  set(0, 5)  fair() = 5");
        edge(21, "WIDTHS as they are now are nothing to it", """
            farms(2)  farm(0, 1, 0)  farm(1, 1, 9)  fair() = 9  set(0, 7)  fair() = 3  told(11) = 0  told(21) = 9""");
        edge(21, "HEIGHT and LEAKS", """
            farms(1)  farm(0, 0, 12)  fair() = 8  farm(0, 0, 11)  fair() = 9  farm(0, 5, 1)  fair() = 8
            farm(0, 0, 20)  fair() = 0  farm(0, 0, 50)  fair() = 0  farm(0, 0, 18)  fair() = 1""");
        edge(21, "the log of a PLUGGED one LEAKS still", """
            farms(2)  farm(0, 4, 1)  farm(0, 5, 9)  set(0, 9)  fair() = 0  set(0, 10)  fair() = 1""");
    }

    private static void dry() {
        edge(22, "less is 0 to 99", """
            dry(-1|100|min|max) = OUTSIDE  dry(0) = NONE  dry(99) = 0  set(0, 99)  dry(99) = 0  dry(98) = 1
            dry(90) = NONE  dry(91) = 8""");
        edge(22, "0 at least: a SPRING of less than so much", """
            farms(1)  set(0, 5)  dry(4) = NONE  dry(5) = 0  dry(6) = 0  dry(99) = 0  set(0, 0)  dry(99) = NONE
            set(0, 1)  dry(1) = 0  dry(0) = NONE""");
        edge(22, "less than it does now, as much is not", """
            farms(1)  farm(0, 1, 5)  dry(15) = NONE  dry(16) = 0  farm(0, 0, 10)  dry(5) = NONE  dry(6) = 0""");
        edge(22, "the first of those that take less", """
            farms(3)  set(0, 3)  dry(1) = 2  dry(2) = 1  dry(3) = 0  farm(2, 4, 1)  dry(1) = NONE  dry(2) = 1
            farm(1, 0, 2)  dry(1) = NONE  farm(1, 0, 1)  dry(1) = 1""");
        edge(22, "NONE: those that take nothing now can not take less", """
            farms(2)  farm(0, 4, 1)  farm(1, 1, 0)  dry(99) = NONE  farm(1, 1, 1)  dry(99) = 1  farm(1, 0, 20)
            dry(99) = NONE""");
        edge(22, "a plain hour: NORTH is nothing to it", "farms(1)  farm(0, 3, 1)  dry(0) = NONE  dry(99) = 0");
        edge(22, "OUTSIDE also if there is none", "set(0, 0)  dry(100|-1) = OUTSIDE  dry(99|0) = NONE");
    }

    private EdgesOfMuch() {
    }
}
