import java.math.BigInteger;

/** Promises 27 to 37: WORN ones, FIGURES to be changed, draws and SETS. EIGHT is told in EdgesOfOrder. */
final class EdgesOfLuck {
    private static final String EIGHT = EdgesOfOrder.EIGHT;
    private static final int LEAST = Edges.LEAST;
    private static final int MOST_SEED = 2000000000;

    private final Edges edges;

    EdgesOfLuck(Edges edges) {
        this.edges = edges;
    }

    void ask() {
        gone();
        worn();
        wornRefused();
        likely();
        mends();
        mended();
        nearest();
        about();
        modulus();
        drawn();
        sold();
        first();
        seldom();
        sets();
    }

    private void due(String call, long got, long want) {
        edges.due(call, got, want);
    }

    private static void write(LuckyTicket x, int slot, int width, long... numbers) {
        x.row(slot, width, numbers.length);
        for (int i = 0; i < numbers.length; i++) {
            x.write(slot, i, numbers[i]);
        }
    }

    private void gone() {
        edges.term("III", "WORN: a SLOT's row of length numbers: a FIGURE, or anything else: it is gone");
        LuckyTicket x = Check.rolled("roll length 2 base 10;law mirror;");
        long[] figures = {0, 1, 8, 9};
        for (long figure : figures) {
            write(x, 0, 3, figure, 0);
            due(figure + " is a FIGURE", x.worn(0, 0, 3), 0);
        }
        long[] others = {-1, 10, 15, 16, 255, -128, 1L << 32, Long.MAX_VALUE, Long.MIN_VALUE, (1L << 32) + 5, -16};
        for (long other : others) {
            write(x, 0, 3, other, 0);
            due(other + " is none", x.worn(0, 0, 3), 1);
            due(other + " is none", x.worn(0, 0, 0), 10);
        }
        // cut to its WIDTH it is a FIGURE again
        write(x, 0, 0, 256 + 9, -256);
        due("cut", x.worn(0, 0, 3), 0);
        LuckyTicket most = Check.rolled("roll length 1 base 16;law half;");
        write(most, 0, 0, 15);
        due("15 of base 16", most.worn(0, 0, 3), 0);
        write(most, 0, 0, 16);
        due("16 of base 16", most.worn(0, 0, 3), 1);
    }

    private void worn() {
        edges.promise(27, "what 0: how many TICKETS it can have been, 1: how many of them are LUCKY, 2: the first of these (NONE), 3: the PLACES that are gone, as bits");
        LuckyTicket x = Check.rolled(EIGHT);
        write(x, 0, 0, -1, -1, -1);
        int[] allGone = {8, 3, 1, 7};
        int[] noneGone = {1, 0, -1, 0};
        for (int what = 0; what <= 3; what++) {
            due("all gone", x.worn(0, 0, what), allGone[what]);
        }
        write(x, 0, 0, 1, 1, 0);
        for (int what = 0; what <= 3; what++) {
            due("none gone", x.worn(0, 0, what), noneGone[what]);
        }
        write(x, 0, 0, 0, 0, 2);
        int[] lastGone = {2, 1, 1, 4};
        for (int what = 0; what <= 3; what++) {
            due("the last gone", x.worn(0, 0, what), lastGone[what]);
        }
        due("none is LUCKY", x.worn(0, 1, 1), 0);
        due("none is LUCKY", x.worn(0, 1, 2), -1);
        due("the first TICKET", x.worn(0, 4, 2), 0);
        LuckyTicket great = Check.rolled("roll length 12 base 2;law mirror;");
        great.row(3, 2, 12);
        due("nothing gone", great.worn(3, 0, 2), 0);
        for (int place = 0; place < 12; place++) {
            great.write(3, place, -1);
        }
        due("all of twelve", great.worn(3, 0, 0), 4096);
        due("all of twelve", great.worn(3, 0, 1), 64);
        due("all of twelve", great.worn(3, 0, 3), 4095);
    }

    private void wornRefused() {
        edges.promise(27, "-2: there are no such SLOT, LAW, what");
        LuckyTicket x = Check.rolled(EIGHT);
        edges.bounds("worn(slot, 0, 0) of nothing", slot -> x.worn(slot, 0, 0), 0, 3);
        due("-2 ahead of -6: what", x.worn(0, 0, 4), -2);
        due("-2 ahead of -6: LAW", x.worn(0, 5, 0), -2);
        edges.promise(27, "-6: it has nothing");
        for (int slot = 0; slot <= 3; slot++) {
            due("SLOT " + slot, x.worn(slot, 0, 0), -6);
        }
        edges.promise(27, "-7: it has not length numbers");
        for (int n : new int[] {0, 2, 4, 60}) {
            x.row(1, 0, n);
            due(n + " numbers", x.worn(1, 0, 0), -7);
            due(n + " numbers", x.worn(1, 0, 3), -7);
            due("-2 ahead of -7: what", x.worn(1, 0, 4), -2);
            due("-2 ahead of -7: LAW", x.worn(1, 5, 0), -2);
        }
        x.row(1, 0, 3);
        due("3 numbers", x.worn(1, 4, 0), 1);
        edges.promise(27, "-2: there are no such SLOT, LAW, what");
        for (int slot = 0; slot <= 3; slot++) {
            x.row(slot, slot, 3);
        }
        edges.bounds("worn(slot, 0, 0)", slot -> x.worn(slot, 0, 0), 0, 3);
        edges.bounds("worn(1, law, 0)", law -> x.worn(1, law, 0), 0, 4);
        edges.bounds("worn(1, 0, what)", what -> x.worn(1, 0, what), 0, 3);
    }

    private void likely() {
        edges.promise(28, "How many of these have a FIGURE at a PLACE and are LUCKY");
        LuckyTicket x = Check.rolled(EIGHT);
        write(x, 0, 0, -1, 0, 7);
        due("000 001: 001", x.likely(0, 0, 0, 0), 1);
        due("100 101: 100", x.likely(0, 0, 0, 1), 1);
        due("what is told", x.likely(0, 0, 1, 0), 2);
        due("other than what is told", x.likely(0, 0, 1, 1), 0);
        due("of none", x.likely(0, 1, 0, 0), 0);
        due("of all", x.likely(0, 2, 2, 1), 2);
        edges.promise(28, "-2, -6, -7 likewise, no such PLACE, FIGURE");
        edges.bounds("likely(0, 0, place, 0)", place -> x.likely(0, 0, place, 0), 0, 2);
        edges.bounds("likely(0, 0, 0, figure)", figure -> x.likely(0, 0, 0, figure), 0, 1);
        edges.bounds("likely(0, law, 0, 0)", law -> x.likely(0, law, 0, 0), 0, 4);
        edges.bounds("likely(slot, 0, 0, 0)", slot -> x.likely(slot, 0, 0, 0), 0, 3);
        due("nothing", x.likely(1, 0, 0, 0), -6);
        due("-2 ahead of -6: PLACE", x.likely(1, 0, 3, 0), -2);
        due("-2 ahead of -6: FIGURE", x.likely(1, 0, 0, 2), -2);
        for (int n : new int[] {0, 2, 4, 60}) {
            x.row(1, 0, n);
            due(n + " numbers", x.likely(1, 0, 0, 0), -7);
            due("-2 ahead of -7", x.likely(1, 0, 0, 2), -2);
        }
        LuckyTicket most = Check.rolled("roll length 3 base 16;law mirror;");
        write(most, 2, 1, -1, -1, -1);
        edges.bounds("likely(2, 0, 2, figure) of base 16", figure -> most.likely(2, 0, 2, figure), 0, 15);
        due("F at the end", most.likely(2, 0, 2, 15), 16);
    }

    private void mends() {
        edges.term("III", "MEND: the fewest FIGURES that are to be changed so that it is LUCKY");
        LuckyTicket x = Check.rolled(EIGHT);
        due("none", x.mend(0, 1), 0);
        due("one", x.mend(0, 0), 1);
        due("all", x.mend(3, 0), 3);
        due("all", x.mend(4, 7), 3);
        LuckyTicket twelve = Check.rolled("roll length 12 base 2;law sum 12;");
        due("all of twelve", twelve.mend(0, 0), 12);
        int[] figures = {1, 2, 3, 4, 7, 8, 10, 12, 15};
        StringBuilder text = new StringBuilder("roll length 3 base 16;");
        for (int figure : figures) {
            text.append("law sum ").append(figure).append(" and places 0 1 like 0;");
        }
        LuckyTicket sixteen = Check.rolled(text.toString());
        for (int law = 0; law < figures.length; law++) {
            due("000 to 00" + figures[law] + " at once", sixteen.mend(law, 0), 1);
        }
        edges.promise(29, "NONE: none is LUCKY");
        due("of none", x.mend(1, 0), -1);
        edges.promise(29, "-2: there are none such");
        edges.bounds("mend(0, ticket)", ticket -> x.mend(0, ticket), 0, 7);
        edges.bounds("mend(1, ticket)", ticket -> x.mend(1, ticket), 0, 7);
        edges.bounds("mend(law, 0)", law -> x.mend(law, 0), 0, 4);
    }

    private void mended() {
        edges.promise(30, "The first LUCKY TICKET (by number) that is so few FIGURES off");
        LuckyTicket x = Check.rolled(EIGHT);
        due("itself", x.mended(0, 4), 4);
        due("1 2 4 are one off 0", x.mended(0, 0), 1);
        due("1 2 4 are two off 7", x.mended(0, 7), 1);
        due("2 4 are one off 6", x.mended(0, 6), 2);
        due("all off", x.mended(3, 0), 7);
        due("all off", x.mended(4, 7), 0);
        edges.promise(30, "NONE, -2 likewise");
        due("of none", x.mended(1, 0), -1);
        edges.bounds("mended(0, ticket)", ticket -> x.mended(0, ticket), 0, 7);
        edges.bounds("mended(1, ticket)", ticket -> x.mended(1, ticket), 0, 7);
        edges.bounds("mended(law, 0)", law -> x.mended(law, 0), 0, 4);
    }

    private void nearest() {
        edges.promise(31, "nearest by number, of two the lesser");
        LuckyTicket x = Check.rolled(EIGHT);
        due("2 and 4", x.nearest(0, 3), 2);
        due("itself", x.nearest(0, 2), 2);
        due("above alone", x.nearest(0, 0), 1);
        due("below alone", x.nearest(0, 7), 4);
        due("from the last to the first", x.nearest(4, 7), 0);
        due("from the first to the last", x.nearest(3, 0), 7);
        LuckyTicket y = Check.rolled("roll length 3 base 2;law sum 0 or sum 3;");
        due("0 is nearer", y.nearest(0, 3), 0);
        due("7 is nearer, not round", y.nearest(0, 4), 7);
        edges.promise(31, "NONE, -2 likewise");
        due("of none", x.nearest(1, 0), -1);
        edges.bounds("nearest(0, ticket)", ticket -> x.nearest(0, ticket), 0, 7);
        edges.bounds("nearest(1, ticket)", ticket -> x.nearest(1, ticket), 0, 7);
        edges.bounds("nearest(law, 0)", law -> x.nearest(law, 0), 0, 4);
    }

    private void about() {
        edges.promise(32, "its last half turned about (each FIGURE of it is base less 1 less it)");
        LuckyTicket x = Check.rolled(EIGHT);
        due("000 to 001", x.about(0), 1);
        due("111 to 110", x.about(7), 6);
        LuckyTicket one = Check.rolled("roll length 1 base 16;");
        due("no half", one.about(0), 0);
        due("no half", one.about(15), 15);
        LuckyTicket twelve = Check.rolled("roll length 12 base 2;");
        due("six of twelve", twelve.about(4095), 4032);
        due("six of twelve", twelve.about(0), 63);
        LuckyTicket two = Check.rolled("roll length 2 base 16;");
        due("A3 to AC", two.about(0xA3), 0xAC);
        edges.promise(32, "-2: there is none such");
        edges.bounds("about", x::about, 0, 7);
    }

    /** The n-th draw (from 1) of some TICKETS, by numbers that have no bounds. */
    private static int drawOf(long seed, int n, int tickets) {
        BigInteger x = BigInteger.valueOf(seed);
        for (int i = 0; i < n; i++) {
            x = x.multiply(BigInteger.valueOf(1103515245)).add(BigInteger.valueOf(12345)).mod(BigInteger.TWO.pow(31));
        }
        return x.divide(BigInteger.valueOf(65536)).mod(BigInteger.valueOf(tickets)).intValue();
    }

    private void modulus() {
        edges.term("VII", "x becomes (1103515245 x + 12345) modulo 2,147,483,648 (at first it is the seed); a draw of n: x / 65536, cut, modulo n");
        LuckyTicket x = Check.rolled("roll length 9 base 3;law places 0 like 0;");
        // x / 65536 is below 32,768, and more than TICKETS
        int[] seeds = {0, 1, 2, 12345, 65535, 65536, 1073741824, 1999999999, MOST_SEED};
        for (int seed : seeds) {
            due("a draw of 19,683 from " + seed, x.draw(0, seed), drawOf(seed, 1, 19683));
        }
        due("12345 by 65536 is 0", x.draw(0, 0), 0);
        due("1103527590 by 65536 is 16838", x.draw(0, 1), 16838);
        LuckyTicket one = Check.rolled("roll length 1 base 2;law sum 1;");
        due("a draw of 1", one.draw(0, 1), 1);
    }

    private void drawn() {
        edges.promise(33, "from a seed (0 .. 2,000,000,000)");
        LuckyTicket x = Check.rolled(EIGHT);
        edges.bounds("draw(0, seed)", seed -> x.draw(0, seed), 0, MOST_SEED);
        edges.bounds("draw(1, seed)", seed -> x.draw(1, seed), 0, MOST_SEED);
        int[] lucky = {1, 2, 4};
        due("the least", x.draw(0, 0), lucky[drawOf(0, 1, 3)]);
        due("the greatest", x.draw(0, MOST_SEED), lucky[drawOf(MOST_SEED, 1, 3)]);
        edges.promise(33, "the one whose place among them is a draw of how many they are");
        for (int seed = 1; seed < 40; seed++) {
            due("from " + seed, x.draw(0, seed), lucky[drawOf(seed, 1, 3)]);
        }
        due("of one", x.draw(3, 99), 7);
        edges.promise(33, "NONE: none is");
        due("of none", x.draw(1, 0), -1);
        edges.promise(33, "-2: there are none such");
        edges.bounds("draw(law, 0)", law -> x.draw(law, 0), 0, 4);
    }

    private static int soldOf(long seed, int n, int tickets, int lucky) {
        int all = 0;
        for (int i = 1; i <= n; i++) {
            all += drawOf(seed, i, tickets) == lucky ? 1 : 0;
        }
        return all;
    }

    private void sold() {
        edges.promise(34, "n TICKETS (1 .. 60) sold by draws of TICKETS from a seed (likewise): how many are LUCKY");
        LuckyTicket x = Check.rolled(EIGHT);
        due("one", x.sold(4, 0, 1), 1);
        due("one", x.sold(3, 0, 1), 0);
        due("60", x.sold(3, 0, 60), soldOf(0, 60, 8, 7));
        due("60 from the greatest", x.sold(3, MOST_SEED, 60), soldOf(MOST_SEED, 60, 8, 7));
        due("60 of all", x.sold(2, 5, 60), 60);
        due("60 of none", x.sold(1, 5, 60), 0);
        for (int n = 1; n <= 60; n++) {
            due(n + " from 77", x.sold(4, 77, n), soldOf(77, n, 8, 0));
        }
        edges.promise(34, "-2: there are none such");
        edges.bounds("sold(0, 0, n)", n -> x.sold(0, 0, n), 1, 60);
        edges.bounds("sold(0, seed, 1)", seed -> x.sold(0, seed, 1), 0, MOST_SEED);
        edges.bounds("sold(law, 0, 1)", law -> x.sold(law, 0, 1), 0, 4);
    }

    private static int firstOf(long seed, int tickets, int lucky) {
        int i = 1;
        while (i <= 60 && drawOf(seed, i, tickets) != lucky) {
            i++;
        }
        return i;
    }

    private void first() {
        edges.promise(35, "The first of n draws of a LUCKY one (from 1); NONE: none");
        LuckyTicket x = Check.rolled("roll length 6 base 2;law sum 6;law sum 7;law not by 1;");
        int seed = 0;
        while (firstOf(seed, 64, 63) != 60) {
            seed++;
        }
        due("the 60th", x.first(0, seed, 60), 60);
        due("not among 59", x.first(0, seed, 59), -1);
        due("the first", x.first(2, seed, 1), 1);
        due("of none", x.first(1, seed, 60), -1);
        edges.promise(35, "-2 likewise");
        int from = seed;
        edges.bounds("first(0, seed, n)", n -> x.first(0, from, n), 1, 60);
        edges.bounds("first(1, seed, 1)", s -> x.first(1, s, 1), 0, MOST_SEED);
        edges.bounds("first(law, 0, 1)", law -> x.first(law, 0, 1), 0, 2);
    }

    private void seldom() {
        edges.promise(36, "of SETS (IV) of n (1 .. 4) how many have k (0 .. 4) LUCKY ones at most");
        LuckyTicket x = Check.rolled(EIGHT);
        // three are LUCKY, five are not
        long[][] want = {{5, 8, 8, 8, 8}, {10, 25, 28, 28, 28}, {10, 40, 55, 56, 56}, {5, 35, 65, 70, 70}};
        for (int n = 1; n <= 4; n++) {
            for (int k = 0; k <= 4; k++) {
                due("n " + n + ", k " + k, x.seldom(0, n, k), want[n - 1][k]);
            }
        }
        due("all are", x.seldom(2, 4, 3), 0);
        due("all are", x.seldom(2, 4, 4), 70);
        due("none is", x.seldom(1, 4, 0), 70);
        LuckyTicket two = Check.rolled("roll length 1 base 2;law sum 1;");
        due("as many as there are", two.seldom(0, 2, 0), 0);
        due("as many as there are", two.seldom(0, 2, 1), 1);
        due("more than there are", two.seldom(0, 3, 4), 0);
        due("more than there are", two.seldom(0, 4, 4), 0);
        LuckyTicket great = Check.rolled("roll length 9 base 3;law not sum 0;");
        BigInteger all = chosen(19683, 4);
        due("the greatest", great.seldom(0, 4, 4), all.longValueExact());
        due("the greatest less those of LUCKY ones alone", great.seldom(0, 4, 3), all.subtract(chosen(19682, 4)).longValueExact());
        edges.promise(36, "-2: there are none such");
        edges.bounds("seldom(0, n, 0)", n -> x.seldom(0, n, 0), 1, 4);
        edges.bounds("seldom(0, 1, k)", k -> x.seldom(0, 1, k), 0, 4);
        edges.bounds("seldom(law, 1, 0)", law -> x.seldom(law, 1, 0), 0, 4);
    }

    private static BigInteger chosen(int from, int n) {
        BigInteger all = BigInteger.ONE;
        for (int i = 0; i < n; i++) {
            all = all.multiply(BigInteger.valueOf(from - i)).divide(BigInteger.valueOf(i + 1));
        }
        return all;
    }

    private void sets() {
        edges.term("IV", "SETS of n: TICKETS, n unlike ones, in no order");
        LuckyTicket x = Check.rolled(EIGHT);
        long[] want = {1, 8, 28, 56, 70};
        for (int n = 0; n <= 4; n++) {
            due("sets(" + n + ")", x.sets(n), want[n]);
        }
        edges.promise(37, "SETS of n (0 .. 4)");
        LuckyTicket two = Check.rolled("roll length 1 base 2;");
        long[] few = {1, 2, 1, 0, 0};
        for (int n = 0; n <= 4; n++) {
            due("of two TICKETS", two.sets(n), few[n]);
        }
        LuckyTicket great = Check.rolled("roll length 9 base 3;");
        for (int n = 0; n <= 4; n++) {
            due("of 19,683 TICKETS", great.sets(n), chosen(19683, n).longValueExact());
        }
        edges.promise(37, "-2: there is none such, no ROLL");
        edges.bounds("sets", x::sets, 0, 4);
        due("no ROLL", new LuckyTicket().sets(0), -2);
        due("no ROLL", new LuckyTicket().sets(LEAST), -2);
    }
}
