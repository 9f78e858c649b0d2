/** The edges of promises 23 to 28. */
final class EdgesOfHeard {
    static void run() {
        seen();
        forget();
        leak();
        leakFits();
        borer();
        listen();
        rests();
        restsRefuses();
    }

    private static void edge(int promise, String title, String text) {
        Script.edge("promise " + promise + ": " + title, text);
    }

    private static void seen() {
        edge(23, "it took 0 to 9", "seen(0, -1|10|min|max) = OUTSIDE  seen(0, 0) = 1  seen(0, 9) = 2  told(6) = 2");
        edge(23, "8 at most", """
            seen(0, 1|1|1|1|1|1|1)  told(6) = 7  seen(8, 1) = 8  seen(0, 1) = FULL  seen(8, 0) = FULL  told(6) = 8
            leak(-1) = 81""");
        edge(23, "the eighth is a sight, too", """
            seen(0, 1|1|1|1|1|1|1)  leak(-1) = 81  seen(0, 9) = 8  leak(-1) = 0""");
        edge(23, "UNKNOWN", """
            seen(-1|9|min|max, 1) = UNKNOWN  seen(8, 1) = 1  farms(1)  seen(1|8|-1, 1) = UNKNOWN  seen(0, 1) = 1""");
        edge(23, "UNKNOWN ahead of OUTSIDE, these ahead of FULL", """
            seen(9|-1, 10|-1) = UNKNOWN  seen(0, 1|1|1|1|1|1|1|1)  seen(9|-1, 1|10) = UNKNOWN  seen(0, -1|10) = OUTSIDE
            seen(0, 0) = FULL""");
        edge(23, "of one FARM twice, otherwise", "seen(0, 1) = 1  leak(-1) = 81  seen(0, 2) = 2  leak(-1) = 0");
    }

    private static void forget() {
        edge(24, "of none: 0", "forget() = 0  forget() = 0  told(6) = 0");
        edge(24, "how many there were, of 1 and of 8; then 8 again", """
            seen(0, 9) = 1  leak(-1) = 0  forget() = 1  leak(-1) = 81  seen(0, 9|9|9|9|9|9|9|9)  seen(0, 9) = FULL
            forget() = 8  told(6) = 0  seen(0, 1) = 1  leak(-1) = 81""");
        edge(24, "the SIGHTS alone go", """
            farm(3, 0, 3)  pad ".A"  image(0)  seen(0, 1)  image(1)  forget() = 1  told(40) = 3  told(0) = 2
            restore(1) = 1  told(6) = 1  restore(0) = 1  told(6) = 0""");
    }

    private static void leak() {
        edge(25, "how many, the first, the last, behind the last, of one farm", """
            farms(1)  leak(-1) = 9  leak(0) = 1  leak(8) = 9  leak(9|10|max) = NONE  leak(-2|-3|min) = NONE""");
        edge(25, "how many, the first, the last, behind the last, of nine farms", """
            leak(-1) = 81  leak(0) = 1  leak(8) = 9  leak(9) = 11  leak(80) = 89  leak(81|82|max) = NONE
            leak(-2|min) = NONE""");
        edge(25, "no twos: none is the first", """
            farms(1)  seen(0, 9)  leak(-1) = 0  leak(0|1|-2) = NONE  forget()  farm(0, 5, 9)  leak(-1) = 0
            leak(0) = NONE""");
        edge(25, "9 in all at most", """
            farms(2)  farm(0, 5, 8)  leak(-1) = 10  leak(0) = 1  leak(1) = 11  farm(0, 5, 9)  leak(-1) = 9  leak(0) = 11
            farm(1, 5, 7)  leak(-1) = 2  leak(0) = 11  leak(1) = 12  leak(2) = NONE  farm(1, 5, 9)  leak(-1) = 0""");
    }

    private static void leakFits() {
        edge(25, "1 at least: as it is now is not among them; 9 at most", """
            farms(1)  farm(0, 1, 9)  set(0, 9)  seen(0, 9)  leak(-1) = 0  forget()  seen(0, 8)  leak(-1) = 1
            leak(0) = 1  forget()  seen(0, 0)  leak(-1) = 1  leak(0) = 9  set(0, 10)  leak(-1) = 0  forget()
            seen(0, 1)  leak(0) = 9  leak(-1) = 1""");
        edge(25, "so much more than it LEAKS now", """
            farms(1)  farm(0, 1, 9)  set(0, 9)  farm(0, 5, 1)  seen(0, 0)  leak(-1) = 1  leak(0) = 8  farm(0, 5, 8)
            leak(0) = 1  farm(0, 5, 9)  leak(-1) = 0""");
        edge(25, "a log takes down to 0, not below", """
            farms(2)  set(0, 3)  seen(0, 0)  leak(-1) = 7  leak(0) = 3  leak(6) = 9  seen(1, 0)  leak(-1) = 7
            seen(1, 1)  leak(-1) = 0""");
        edge(25, "all SIGHTS, of several FARMS", """
            farms(3)  set(0, 3)  seen(2, 0)  leak(-1) = 27  seen(0, 1)  leak(-1) = 20  leak(0) = 1  leak(1) = 2
            leak(2) = 11  seen(1, 1)  leak(-1) = 11  leak(0) = 1  leak(1) = 11  leak(2) = 21""");
        edge(25, "a PLUGGED farm took nothing", """
            farms(1)  farm(0, 4, 1)  seen(0, 0)  leak(-1) = 9  seen(0, 1)  leak(-1) = 0""");
        edge(25, "plain hours: NORTH and the pad are nothing to it", """
            farms(1)  farm(0, 3, 1)  pad "A*"  seen(0, 1)  leak(-1) = 9""");
    }

    private static void borer() {
        edge(26, "HEIGHT 0: there is none less", "borer(-1) = 0  borer(0|1|-2|min|max) = NONE");
        edge(26, "HEIGHT 1 and HEIGHT 50", """
            farm(0, 0, 1)  borer(-1) = 1  borer(0) = 0  borer(1) = NONE  farm(0, 0, 50)  borer(-1) = 50  borer(0) = 0
            borer(49) = 49  borer(50|51|max) = NONE  borer(-2|min) = NONE""");
        edge(26, "the most there are", """
            farm(0|1|2|3|4|5|6|7|8, 0, 50)  borer(-1) = 450  borer(50) = 100  borer(449) = 849  borer(450) = NONE""");
        edge(26, "less than its own: as it is now is not among them", """
            farms(1)  farm(0, 0, 10)  farm(0, 1, 5)  set(0, 13)  seen(0, 3)  borer(-1) = 0  borer(0) = NONE  forget()
            seen(0, 4)  borer(-1) = 1  borer(0) = 9  forget()  seen(0, 5)  borer(-1) = 9  borer(0) = 0  borer(8) = 8
            borer(9) = NONE  forget()  seen(0, 6)  borer(-1) = 0""");
        edge(26, "the least FARM first, then the least HEIGHT", """
            farms(3)  farm(0, 0, 2)  farm(2, 0, 3)  borer(-1) = 5  borer(0) = 0  borer(1) = 1  borer(2) = 200
            borer(4) = 202  borer(5) = NONE""");
        edge(26, "all SIGHTS", """
            farms(2)  set(0, 10)  farm(0, 0, 10)  farm(0, 1, 9)  farm(1, 1, 9)  seen(1, 5)  borer(-1) = 1  borer(0) = 5
            seen(0, 5)  borer(-1) = 1  seen(0, 4)  borer(-1) = 0  borer(0) = NONE""");
        edge(26, "a PLUGGED farm took nothing, however low", """
            farms(1)  farm(0, 4, 1)  farm(0, 0, 3)  seen(0, 0)  borer(-1) = 3  seen(0, 1)  borer(-1) = 0""");
    }

    private static void listen() {
        edge(27, "what is 0 or 1", "listen(-1|2|min|max) = OUTSIDE  listen(0) = 0  listen(1) = 81");
        edge(27, "NONE: there are no twos; OUTSIDE ahead of it", """
            seen(0, 9)  listen(0|1) = NONE  listen(2|-1) = OUTSIDE  forget()  listen(1) = 81  farms(1)  farm(0, 5, 9)
            listen(0|1) = NONE""");
        edge(27, "one two alone", """
            farms(1)  farm(0, 5, 8)  listen(0) = 0  listen(1) = 1  farm(0, 5, 7)  listen(1) = 2  farm(0, 1, 9)
            set(0, 9)  listen(1) = 1""");
        edge(27, "the least of FARMS that do as well", """
            farms(3)  set(0, 0)  listen(0) = 0  listen(1) = 27  set(0, 9)  farm(2, 1, 9)  farm(0|1, 1, 0)
            listen(0) = 2  listen(1) = 3  farms(2)  farm(0|1, 1, 0)  listen(0) = 0  listen(1) = 18""");
        edge(27, "the ninth FARM", """
            farm(0|1|2|3|4|5|6|7, 1, 0)  farm(8, 1, 9)  set(0, 9)  listen(0) = 8  listen(1) = 9  farm(8, 1, 1)
            listen(0) = 8  listen(1) = 72""");
        edge(27, "the fewest at the most, whatever it takes", """
            farms(2)  farm(0, 1, 1)  farm(1, 1, 9)  set(0, 10)  listen(0) = 1  listen(1) = 2  farm(1, 1, 1)
            set(0, 2)  listen(0) = 0  listen(1) = 10  set(0, 9)  listen(0) = 1  listen(1) = 14""");
        edge(27, "of the twos that fit the SIGHTS", """
            farms(2)  farm(0, 1, 1)  farm(1, 1, 9)  set(0, 10)  seen(0, 0)  listen(0|1) = NONE  forget()  seen(0, 1)
            listen(1) = 2  seen(1, 5)  listen(0) = 0  listen(1) = 2""");
    }

    private static void rests() {
        edge(28, "WIDTHS of 0 to 4, as many as the LEVEL is above HEIGHT", """
            farms(1)  set(0, 0)  rests(1, 0) = 0  set(0, 1)  rests(1, 0) = 1  set(0, 3)  rests(1, 0) = 3
            set(0, 4)  rests(1, 0) = 4  set(0, 5)  rests(1, 0) = 4  set(0, 99)  rests(1, 0) = 4
            farm(0, 0, 50)  rests(1, 0) = 4  set(0, 52)  rests(1, 0) = 2  set(0, 50)  rests(1, 0) = 0""");
        edge(28, "how many, the first, behind the last, i below -1", """
            farms(1)  rests(1, -1) = 1  rests(1, 0) = 4  rests(1, 1|2|max) = NONE  rests(1, -2|-3|min) = NONE
            set(0, 0)  rests(1, -1) = 1  rests(1, 0) = 0""");
        edge(28, "of one, of two, of three; digits, the least FARM's first", """
            farms(4)  set(0, 7)  rests(1, 0) = 4  rests(3, 0) = 43  rests(7, 0) = 430  set(0, 9)  rests(7, 0) = 441
            rests(7, -1) = 1  set(0, 20)  rests(6, 0) = 44  rests(14, 0) = 444""");
        edge(28, "0 ahead of other digits", """
            farms(3)  farm(0, 4, 1)  rests(7, 0) = 44  rests(3, 0) = 4  rests(5, 0) = 4  farm(1, 4, 1)  rests(7, 0) = 4
            farm(2, 4, 1)  rests(7, 0) = 0  rests(7, -1) = 1""");
        edge(28, "digits, those behind the first 0", """
            farms(3)  set(0, 0)  rests(7, 0) = 0  set(0, 1)  rests(7, 0) = 100  set(0, 2)  rests(7, 0) = 200
            set(0, 3)  rests(7, 0) = 300  set(0, 4)  rests(7, 0) = 400  set(0, 5)  rests(7, 0) = 410""");
        edge(28, "a plain hour: NORTH is nothing to it", "farms(1)  farm(0, 3, 1)  rests(1, 0) = 4");
        edge(28, "as many FARMS as there are now, whatever was asked before", """
            farms(1)  takesIf(0, 0)  farms(9)  rests(256, 0) = 4  farms(2)  rests(4, 0) = OUTSIDE""");
        edge(28, "FARMS beside the set keep theirs", """
            farms(4)  set(0, 12)  farm(0, 1, 9)  rests(2, 0) = 3  rests(6, 0) = 30  rests(1, 0) = 4  rests(3, 0) = 44
            farm(0, 1, 0)  rests(2, 0) = 4  farm(1, 1, 9)  rests(4, 0) = 3  told(11) = 0  told(21) = 9""");
        edge(28, "LEAKS of logs in the set", """
            farms(2)  set(0, 8)  farm(1, 5, 3)  rests(3, 0) = 41  farm(1, 5, 4)  rests(3, 0) = 40""");
    }

    private static void restsRefuses() {
        edge(28, "OUTSIDE: the set is of none", "rests(0, -1|0|-2|max) = OUTSIDE");
        edge(28, "OUTSIDE: the set is not of FARMS", """
            rests(512|513|1024|-1|min|max, -1) = OUTSIDE  rests(256, -1) = 1  farms(8)  rests(256|257, -1) = OUTSIDE
            rests(128, -1) = 1  farms(1)  rests(2|3, -1) = OUTSIDE  rests(1, -1) = 1""");
        edge(28, "FULL: more than 3", """
            rests(15|511|480|271, -1) = FULL  rests(7|448|273, -1) = 1  farms(4)  rests(15, -1) = FULL
            rests(7|11|13|14, -1) = 1  farms(3)  rests(7, -1) = 1""");
        edge(28, "OUTSIDE ahead of FULL", "farms(4)  rests(31|63|30|-1|max, -1) = OUTSIDE  rests(15, -1) = FULL");
        edge(28, "refused whatever i is", """
            farms(4)  rests(15, -2|0|1|max) = FULL  rests(16, -2|0|1|max) = OUTSIDE  rests(7, -2|1) = NONE""");
    }

    private EdgesOfHeard() {
    }
}
