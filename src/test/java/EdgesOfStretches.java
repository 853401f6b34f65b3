/** Promises 38 to 48: rows of TICKETS, stretches, FIGURES of LUCKY ones, WALKS. EIGHT is told in EdgesOfOrder. */
final class EdgesOfStretches {
    private static final String EIGHT = EdgesOfOrder.EIGHT;
    private static final int LEAST = Edges.LEAST;
    private static final int GREATEST = Edges.GREATEST;

    private final Edges edges;

    EdgesOfStretches(Edges edges) {
        this.edges = edges;
    }

    void ask() {
        judged();
        kept();
        between();
        runs();
        windows();
        have();
        at();
        mostly();
        same();
        walks();
        islands();
    }

    private void due(String call, long got, long want) {
        edges.due(call, got, want);
    }

    private static void write(LuckyTicket x, int slot, int width, long... numbers) {
        x.row(slot, width, numbers.length);
        for (int i = 0; i < numbers.length; i++) {
            x.write(slot, i, numbers[i]);
        }
    }

    private void judged() {
        edges.promise(38, "how many ahead of the first that is not (or is none)");
        LuckyTicket x = Check.rolled(EIGHT);
        write(x, 0, 0);
        due("of no numbers", x.judge(0, 2), 0);
        write(x, 0, 0, 4, 2, 1, 1, 3, 1);
        due("the first that is not", x.judge(0, 0), 4);
        due("at once", x.judge(0, 1), 0);
        due("all", x.judge(0, 2), 6);
        long[] none = {8, -1, 127, -128, 1L << 32, (1L << 32) + 7, Long.MIN_VALUE, Long.MAX_VALUE, GREATEST, LEAST};
        for (long number : none) {
            write(x, 1, 3, 0, 7, number, 0);
            due(number + " is none", x.judge(1, 2), 2);
        }
        x.row(2, 1, 60);
        due("60", x.judge(2, 4), 60);
        x.write(2, 59, 1);
        due("but for the last", x.judge(2, 4), 59);
        LuckyTicket great = Check.rolled("roll length 9 base 3;law not sum 0;");
        write(great, 0, 1, 19682, 1, 19683);
        due("the last TICKET is one", great.judge(0, 0), 2);
        edges.promise(38, "-2: there are none such, no ROLL");
        edges.bounds("judge(slot, 2)", slot -> x.judge(slot, 2), 0, 3);
        edges.bounds("judge(0, law)", law -> x.judge(0, law), 0, 4);
        LuckyTicket without = new LuckyTicket();
        due("no ROLL, nothing", without.judge(0, 0), -2);
        without.row(0, 0, 0);
        due("no ROLL", without.judge(0, 0), -2);
        due("no LAW, nothing", x.judge(3, 5), -2);
        edges.promise(38, "-6: it has nothing");
        due("nothing", x.judge(3, 0), -6);
    }

    private void kept() {
        edges.promise(39, "how many unlike TICKETS of a SLOT's row are LUCKY (numbers that are none aside)");
        LuckyTicket x = Check.rolled(EIGHT);
        write(x, 0, 0);
        due("of no numbers", x.kept(0, 2), 0);
        write(x, 0, 3, 8, -1, 1, 1L << 32, 2, 1, (1L << 32) + 4, 2, 3, Long.MIN_VALUE);
        due("1 2", x.kept(0, 0), 2);
        due("1 2 3", x.kept(0, 2), 3);
        due("of none", x.kept(0, 1), 0);
        x.row(1, 0, 60);
        due("60 alike", x.kept(1, 4), 1);
        LuckyTicket great = Check.rolled("roll length 6 base 2;law mirror;law not by 0;law by 0 or by 1;");
        great.row(1, 0, 60);
        for (int i = 0; i < 60; i++) {
            great.write(1, i, 63 - i);
        }
        due("60 unlike", great.kept(1, 2), 60);
        edges.promise(39, "-2, -6 likewise");
        edges.bounds("kept(slot, 2)", slot -> x.kept(slot, 2), 0, 3);
        edges.bounds("kept(0, law)", law -> x.kept(0, law), 0, 4);
        due("no ROLL", new LuckyTicket().kept(0, 0), -2);
        due("no LAW, nothing", x.kept(3, 5), -2);
        due("nothing", x.kept(3, 0), -6);
    }

    private void between() {
        edges.promise(40, "from one to another one (both, the first no more than the second)");
        LuckyTicket x = Check.rolled(EIGHT);
        due("all", x.between(2, 0, 7), 8);
        due("the first alone", x.between(4, 0, 0), 1);
        due("the last alone", x.between(3, 7, 7), 1);
        due("neither", x.between(0, 3, 3), 0);
        due("both", x.between(0, 1, 4), 3);
        due("the first is more", x.between(2, 1, 0), -2);
        due("the first is more", x.between(2, 7, 6), -2);
        edges.promise(40, "-2: there are none such");
        edges.bounds("between(2, ticket, 7)", ticket -> x.between(2, ticket, 7), 0, 7);
        edges.bounds("between(2, 0, to)", to -> x.between(2, 0, to), 0, 7);
        edges.bounds("between(law, 0, 0)", law -> x.between(law, 0, 0), 0, 4);
    }

    private void runs() {
        edges.promise(41, "what 0: how many (0: none), 1: the first of the first such (NONE)");
        LuckyTicket x = Check.rolled(EIGHT);
        due("1 2, 4", x.run(0, 0), 2);
        due("1 2, 4", x.run(0, 1), 1);
        due("none", x.run(1, 0), 0);
        due("none", x.run(1, 1), -1);
        due("all", x.run(2, 0), 8);
        due("all", x.run(2, 1), 0);
        due("the last alone", x.run(3, 1), 7);
        due("the first alone", x.run(4, 1), 0);
        LuckyTicket y = Check.rolled("roll length 3 base 2;law mirror;law not sum 1;law not sum 2;");
        due("0, 2, 5, 7: the first such", y.run(0, 1), 0);
        due("0, 3, 5 6 7: to the last", y.run(1, 0), 3);
        due("0, 3, 5 6 7: to the last", y.run(1, 1), 5);
        due("0 1 2, 4, 7: from the first", y.run(2, 0), 3);
        due("0 1 2, 4, 7: not round", y.run(2, 1), 0);
        edges.promise(41, "-2: there are none such");
        edges.bounds("run(law, 0)", law -> x.run(law, 0), 0, 4);
        edges.bounds("run(0, what)", what -> x.run(0, what), 0, 1);
    }

    private void windows() {
        edges.promise(42, "Of all rows of n TICKETS (1 .. TICKETS) one behind the other (not round), what 0: the most that are LUCKY in one, 1: where the first such begins, 2: the fewest, 3: where that begins");
        LuckyTicket x = Check.rolled(EIGHT);
        // 1 2 4 among 0 .. 7
        int[][] want = {{1, 1, 0, 0}, {2, 1, 0, 5}, {2, 0, 0, 5}, {3, 1, 1, 3},
            {3, 0, 1, 3}, {3, 0, 2, 2}, {3, 0, 3, 0}, {3, 0, 3, 0}};
        for (int n = 1; n <= 8; n++) {
            for (int what = 0; what <= 3; what++) {
                due("n " + n + ", what " + what, x.window(0, n, what), want[n - 1][what]);
            }
        }
        due("of none", x.window(1, 8, 0), 0);
        due("of none", x.window(1, 1, 1), 0);
        due("of none", x.window(1, 1, 3), 0);
        due("the last row", x.window(3, 2, 1), 6);
        due("the last row of one", x.window(3, 1, 1), 7);
        due("not round", x.window(4, 2, 0), 1);
        edges.promise(42, "-2: there are none such");
        edges.bounds("window(0, n, 0)", n -> x.window(0, n, 0), 1, 8);
        edges.bounds("window(0, 1, what)", what -> x.window(0, 1, what), 0, 3);
        edges.bounds("window(law, 1, 0)", law -> x.window(law, 1, 0), 0, 4);
    }

    private void have() {
        edges.promise(43, "How many LUCKY ones have a sum of FIGURES");
        LuckyTicket x = Check.rolled(EIGHT);
        due("0", x.have(2, 0), 1);
        due("the greatest", x.have(2, 3), 1);
        due("beyond it", x.have(2, 4), 0);
        due("far beyond it", x.have(2, 181), 0);
        due("the greatest of all", x.have(2, GREATEST), 0);
        due("of none", x.have(1, 0), 0);
        edges.promise(43, "-2: there is no such LAW, the sum is below 0");
        due("-1", x.have(2, -1), -2);
        due("the least", x.have(2, LEAST), -2);
        edges.bounds("have(law, 0)", law -> x.have(law, 0), 0, 4);
    }

    private void at() {
        edges.promise(44, "How many LUCKY ones have a FIGURE at a PLACE");
        LuckyTicket x = Check.rolled(EIGHT);
        due("100", x.at(0, 0, 1), 1);
        due("001 010", x.at(0, 0, 0), 2);
        due("of none", x.at(1, 2, 1), 0);
        due("of all", x.at(2, 2, 1), 4);
        edges.promise(44, "-2: there are none such");
        edges.bounds("at(0, place, 0)", place -> x.at(0, place, 0), 0, 2);
        edges.bounds("at(0, 0, figure)", figure -> x.at(0, 0, figure), 0, 1);
        edges.bounds("at(law, 0, 0)", law -> x.at(law, 0, 0), 0, 4);
        LuckyTicket most = Check.rolled("roll length 3 base 16;law mirror;");
        edges.bounds("at(0, 2, figure) of base 16", figure -> most.at(0, 2, figure), 0, 15);
        due("F at the end", most.at(0, 2, 15), 16);
    }

    private void mostly() {
        edges.promise(45, "The FIGURE that most of them have there, the least of several; NONE: none is LUCKY");
        LuckyTicket x = Check.rolled(EIGHT);
        due("as many have 0 as 1", x.mostly(2, 0), 0);
        due("1 alone", x.mostly(3, 2), 1);
        due("0 0 1", x.mostly(0, 1), 0);
        due("of none", x.mostly(1, 0), -1);
        LuckyTicket most = Check.rolled("roll length 1 base 16;law sum 15;law sum 15 or sum 14;");
        due("the greatest FIGURE", most.mostly(0, 0), 15);
        due("the least of several", most.mostly(1, 0), 14);
        edges.promise(45, "-2 likewise");
        edges.bounds("mostly(0, place)", place -> x.mostly(0, place), 0, 2);
        edges.bounds("mostly(1, place)", place -> x.mostly(1, place), 0, 2);
        edges.bounds("mostly(law, 0)", law -> x.mostly(law, 0), 0, 4);
    }

    private void same() {
        edges.promise(46, "what 0: how many there are, 1: how many of them are LUCKY, 2: the first of these (NONE)");
        LuckyTicket x = Check.rolled(EIGHT);
        int[] ones = {3, 3, 1};
        int[] others = {3, 0, -1};
        int[] alone = {1, 1, 7};
        int[] noughts = {1, 1, 0};
        for (int what = 0; what <= 2; what++) {
            due("001 010 100", x.same(0, 4, what), ones[what]);
            due("011 101 110", x.same(0, 3, what), others[what]);
            due("111", x.same(3, 7, what), alone[what]);
            due("000", x.same(4, 0, what), noughts[what]);
            due("of none", x.same(1, 1, what), others[what]);
        }
        due("itself is not the first", x.same(0, 4, 2), 1);
        LuckyTicket twelve = Check.rolled("roll length 12 base 2;law mirror;");
        due("six and six", twelve.same(0, 63, 0), 924);
        due("six and six", twelve.same(0, 63, 1), 20);
        due("twelve", twelve.same(0, 4095, 0), 1);
        // 00333 and 11124 have like sums, too
        LuckyTicket five = Check.rolled("roll length 5 base 7;law half;");
        due("00333", five.same(0, 171, 0), 10);
        due("11124", five.same(0, 2811, 0), 20);
        LuckyTicket most = Check.rolled("roll length 3 base 16;law unlike;");
        due("FED", most.same(0, 0xFED, 0), 6);
        due("FED", most.same(0, 0xFED, 2), 0xDEF);
        edges.promise(46, "-2: there are none such");
        edges.bounds("same(0, 1, what)", what -> x.same(0, 1, what), 0, 2);
        edges.bounds("same(0, ticket, 0)", ticket -> x.same(0, ticket, 0), 0, 7);
        edges.bounds("same(law, 0, 0)", law -> x.same(law, 0, 0), 0, 4);
    }

    private void walks() {
        edges.term("VI", "WALK by a LAW: from a LUCKY TICKET to another one, one FIGURE changed each time, all LUCKY");
        LuckyTicket x = Check.rolled(EIGHT);
        due("one", x.walk(2, 0, 1), 1);
        due("across", x.walk(2, 0, 7), 3);
        due("to itself", x.walk(2, 7, 7), 0);
        due("to itself alone", x.walk(4, 0, 0), 0);
        // a ring of six, but for 0 and 7
        LuckyTicket ring = Check.rolled("roll length 3 base 2;law sum 1 or sum 2;law sum 1 or sum 2 or sum 3;");
        due("half the ring", ring.walk(0, 1, 6), 3);
        due("by 7, or round", ring.walk(1, 3, 5), 2);
        due("any other FIGURE at once", Check.rolled("roll length 1 base 16;law half;").walk(0, 0, 15), 1);
        LuckyTicket twelve = Check.rolled("roll length 12 base 2;law places 0 like 0;");
        due("twelve", twelve.walk(0, 0, 4095), 12);
        edges.promise(47, "NONE: there is none, one is not LUCKY");
        due("there is none", x.walk(0, 1, 2), -1);
        due("the first is not", x.walk(3, 0, 7), -1);
        due("the second is not", x.walk(3, 7, 0), -1);
        due("the first is not, though beside the second", x.walk(0, 0, 1), -1);
        due("the second is not, though beside the first", x.walk(0, 1, 0), -1);
        due("neither is", x.walk(3, 0, 0), -1);
        due("of none", x.walk(1, 0, 7), -1);
        edges.promise(47, "-2: there are none such");
        edges.bounds("walk(2, ticket, 7)", ticket -> x.walk(2, ticket, 7), 0, 7);
        edges.bounds("walk(2, 0, to)", to -> x.walk(2, 0, to), 0, 7);
        edges.bounds("walk(law, 0, 0)", law -> x.walk(law, 0, 0), 0, 4);
        edges.bounds("walk(1, 0, to)", to -> x.walk(1, 0, to), 0, 7);
    }

    private void islands() {
        edges.term("VI", "ISLANDS: LUCKY ones that WALKS hang together");
        LuckyTicket ring = Check.rolled("roll length 3 base 2;law sum 1 or sum 2;law mirror;");
        due("a ring of six", ring.islands(0, 0), 1);
        due("a ring of six", ring.islands(0, 1), 6);
        due("000 010, 101 111", ring.islands(1, 0), 2);
        due("000 010, 101 111", ring.islands(1, 1), 2);
        due("of like ones the first", ring.islands(1, 2), 0);
        edges.promise(48, "what 0: how many, 1: how many TICKETS the greatest has (0: none), 2: the first TICKET of the first such (NONE)");
        LuckyTicket x = Check.rolled(EIGHT);
        int[][] want = {{3, 1, 1}, {0, 0, -1}, {1, 8, 0}, {1, 1, 7}, {1, 1, 0}};
        for (int law = 0; law <= 4; law++) {
            for (int what = 0; what <= 2; what++) {
                due("islands(" + law + ", " + what + ")", x.islands(law, what), want[law][what]);
            }
        }
        // 00, and 11 12 21 22, which begins behind it
        LuckyTicket y = Check.rolled("roll length 2 base 3;law sum 0 or sum 3 or sum 4 or sum 2 and mirror;");
        due("two", y.islands(0, 0), 2);
        due("the greatest", y.islands(0, 1), 4);
        due("its first", y.islands(0, 2), 4);
        edges.promise(48, "-2: there are none such");
        edges.bounds("islands(0, what)", what -> x.islands(0, what), 0, 2);
        edges.bounds("islands(1, what)", what -> x.islands(1, what), 0, 2);
        edges.bounds("islands(law, 0)", law -> x.islands(law, 0), 0, 4);
    }
}
