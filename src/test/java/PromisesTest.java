/**
 * Promises 1 and 6 to 62 on rolls that are small enough to be counted by hand.
 *
 * <p>By half, of length 4 and base 3, lucky are 0 10 12 20 22 24 28 30 38 40 42 50 52 56 58 60 68 70 80.
 */
public final class PromisesTest {
    private static final Check CHECK = new Check();
    private static final int LEAST = Integer.MIN_VALUE;
    private static final int GREATEST = Integer.MAX_VALUE;
    private static final String FOUR = "roll length 4 base 3;\nlaw half;law odd;law mirror;law sum 9;"
            + "law not by 3;law unlike;law square and not sum 0;";

    public static void main(String[] args) {
        newObject();
        oneTicket();
        kinds();
        inOrder();
        bySteps();
        chances();
        severalLaws();
        wornOnes();
        mending();
        draws();
        sets();
        rowsOfTickets();
        stretches();
        figuresOfLucky();
        walks();
        dates();
        longOnes();
        counts();
        images();
        slots();
        CHECK.finish();
    }

    private static void due(String call, long got, long want) {
        CHECK.due(call, got, want);
    }

    private static void newObject() {
        LuckyTicket x = new LuckyTicket();
        for (int what = 0; what <= 7; what++) {
            due("1: count(" + what + ")", x.count(what), 0);
        }
        due("1: NONE", LuckyTicket.NONE, -1);
        due("1: laws", x.laws(0), -2);
        due("1: many", x.many(0), -2);
        due("1: about", x.about(0), -2);
        due("1: both", x.both(0), -2);
        due("1: just", x.just(0), -2);
        due("1: so", x.so(0), -2);
        due("1: sets", x.sets(0), -2);
        for (int k = 0; k < 3; k++) {
            due("1: back", x.back(k), -6);
        }
    }

    private static void oneTicket() {
        LuckyTicket x = Check.rolled(FOUR);
        // 50 is 1212 by three
        due("6", x.figure(50, 0), 1);
        due("6", x.figure(50, 1), 2);
        due("6", x.figure(50, 2), 1);
        due("6", x.figure(50, 3), 2);
        due("6: noughts ahead", x.figure(1, 0), 0);
        due("6: no PLACE", x.figure(50, 4), -2);
        due("6: no PLACE", x.figure(50, -1), -2);
        due("6: no TICKET", x.figure(81, 0), -2);
        due("6: no TICKET", x.figure(-1, 0), -2);
        // 47 is 1202 by three
        int[] sums = {5, 3, 2, 1, 4, 3};
        for (int what = 0; what < sums.length; what++) {
            due("7: what " + what, x.sums(47, what), sums[what]);
        }
        due("7: no what", x.sums(47, 6), -2);
        due("7: no what", x.sums(47, -1), -2);
        due("7: no TICKET", x.sums(81, 0), -2);
        due("7: all alike", x.sums(80, 5), 1);
        due("8", x.lucky(0, 50), 1);
        due("8", x.lucky(1, 50), 0);
        due("8: no LAW", x.lucky(7, 50), -2);
        due("8: no LAW", x.lucky(-1, 50), -2);
        due("8: no TICKET", x.lucky(0, 81), -2);
        due("8: no TICKET", x.lucky(0, LEAST), -2);
        due("9: 0000", x.laws(0), 0b0010111);
        due("9: 1212", x.laws(50), 0b0010001);
        due("9: 1001", x.laws(28), 0b0010111);
        due("9: 0001", x.laws(1), 0b1010000);
        due("9: no TICKET", x.laws(81), -2);
        due("9: no TICKET", x.laws(-1), -2);
        LuckyTicket five = Check.rolled("roll length 5 base 2;law half;law odd;");
        // 10110: the middle one is of neither half
        due("7: first half", five.sums(22, 1), 1);
        due("7: last half", five.sums(22, 2), 1);
        due("7: even PLACES", five.sums(22, 3), 2);
        due("7: odd PLACES", five.sums(22, 4), 1);
        due("8: half", five.lucky(0, 22), 1);
        due("8: odd", five.lucky(1, 22), 0);
        LuckyTicket one = Check.rolled("roll length 1 base 2;law half;law odd;law mirror;law unlike;");
        due("9: length 1", one.laws(0), 15);
        due("9: length 1", one.laws(1), 13);
    }

    private static void kinds() {
        LuckyTicket x = Check.rolled("roll length 3 base 10;law unlike;law square;law sum 27;law rest 2 of 5;"
                + "law places 0 1 like 2;law not by 0 and sum 3 or sum 0;law not (by 0 and sum 3 or sum 0);"
                + "law places 0 like 0;law not not by 2;");
        due("unlike", x.many(0), 720);
        // sums 0 1 4 9 16 25: 1 3 15 55 69 6
        due("square", x.many(1), 149);
        due("sum", x.many(2), 1);
        due("sum", x.lucky(2, 999), 1);
        // sums 2 7 12 17 22 27: 6 36 73 63 21 1
        due("rest", x.many(3), 200);
        due("places", x.many(4), 55);
        due("places", x.lucky(4, 257), 1);
        due("places", x.lucky(4, 275), 0);
        // of sum 3, three 300s, one 111 and six 012s
        due("not ahead of and ahead of or", x.many(5), 5);
        due("not of a law in ( )", x.many(6), 1000 - 6 - 1);
        due("a side like itself", x.many(7), 1000);
        due("not not", x.alike(8, 2), 1);
        LuckyTicket y = Check.rolled("roll length 2 base 2;law sum 0 or sum 1 and sum 2;law (sum 0 or sum 1) and sum 2;");
        due("and binds before or", y.many(0), 1);
        due("( ) bind before and", y.many(1), 0);
    }

    private static void inOrder() {
        LuckyTicket x = Check.rolled(FOUR);
        due("10", x.many(0), 19);
        due("10", x.many(2), 9);
        due("10: none is", x.many(3), 0);
        due("10: all are", x.many(4), 81);
        due("10: no LAW", x.many(7), -2);
        due("10: no LAW", x.many(-1), -2);
        due("11", x.rank(0, 0), 0);
        due("11: not itself", x.rank(0, 10), 1);
        due("11", x.rank(0, 11), 2);
        due("11: all", x.rank(0, 81), 19);
        due("11: beyond", x.rank(0, 82), -2);
        due("11: below", x.rank(0, -1), -2);
        due("11: no LAW", x.rank(7, 0), -2);
        due("12", x.next(0, 0), 10);
        due("12", x.next(0, 10), 12);
        due("12: at once", x.next(4, 0), 1);
        due("12: not round", x.next(0, 80), -1);
        due("12: none is", x.next(3, 0), -1);
        due("12: no TICKET", x.next(0, 81), -2);
        due("12: no TICKET", x.next(0, -1), -2);
        due("12: no LAW", x.next(9, 0), -2);
        due("13", x.last(0, 10), 0);
        due("13", x.last(0, 80), 70);
        due("13: not round", x.last(0, 0), -1);
        due("13: no TICKET", x.last(0, 81), -2);
        due("13: no LAW", x.last(-1, 0), -2);
        due("14", x.nth(0, 0), 0);
        due("14", x.nth(0, 18), 80);
        due("14: not so many", x.nth(0, 19), -1);
        due("14: not so many", x.nth(0, GREATEST), -1);
        due("14: none below nought", x.nth(0, -1), -1);
        due("14: no LAW", x.nth(7, 0), -2);
        due("15: the first of two", x.gap(0, 0), 9);
        due("15: the first of two", x.gap(0, 1), 0);
        due("15: none between", x.gap(4, 0), 0);
        due("15: none between", x.gap(4, 1), 0);
        due("15: none is", x.gap(3, 0), -1);
        due("15: none is", x.gap(3, 1), -1);
        due("15: no what", x.gap(3, 2), -2);
        due("15: no LAW", x.gap(7, 0), -2);
        LuckyTicket one = Check.rolled("roll length 2 base 2;law sum 2;");
        due("15: one alone", one.gap(0, 0), -1);
    }

    private static void bySteps() {
        LuckyTicket x = Check.rolled(FOUR);
        due("16", x.waits(0, 0, 1), 10);
        due("16", x.waits(0, 0, 10), 1);
        due("16: round", x.waits(0, 80, 1), 1);
        due("16: round to itself", x.waits(0, 0, 81), 1);
        due("16: never", x.waits(0, 1, 81), -1);
        LuckyTicket alone = Check.rolled("roll length 3 base 10;law sum 27;law not sum 0 and not sum 27;law not sum 0;");
        due("16: as many as TICKETS", alone.waits(0, 999, 1), 1000);
        due("18: the last STEP", alone.steps(0, 0, 2, 1), 999);
        due("18: the last STEP", alone.steps(1, 0, 2, 0), 999);
        due("18: by none", alone.steps(2, 1, 2, 0), -1);
        due("18: none but beyond the last", alone.steps(2, 0, 2, 0), -1);
        due("16: a step of more than all", x.waits(0, 0, 91), 1);
        due("16: no STEP", x.waits(0, 0, 0), -2);
        due("16: no STEP", x.waits(0, 0, 10000), -2);
        due("16: the greatest STEP", x.waits(4, 0, 9999), 1);
        due("16: no TICKET", x.waits(0, 81, 1), -2);
        due("16: no LAW", x.waits(7, 0, 1), -2);
        due("17: itself the first", x.hits(0, 0, 10, 1), 1);
        due("17", x.hits(0, 0, 10, 4), 4);
        due("17", x.hits(0, 0, 10, 0), 0);
        due("17: round and round", x.hits(0, 0, 1, 162), 38);
        due("17", x.hits(4, 0, 9999, 20000), 20000);
        due("17: no n", x.hits(0, 0, 1, 20001), -2);
        due("17: no n", x.hits(0, 0, 1, -1), -2);
        due("17: no STEP", x.hits(0, 0, 0, 1), -2);
        due("17: no TICKET", x.hits(0, -1, 1, 1), -2);
        due("17: no LAW", x.hits(7, 0, 1, 1), -2);
        due("18: itself is one", x.steps(0, 0, 3, 0), -1);
        due("18: 1 2", x.steps(0, 1, 2, 0), 1);
        due("18: 9 11, as 10 is one", x.steps(0, 9, 2, 0), 2);
        due("18: 0 10 20", x.steps(0, 0, 3, 1), 10);
        due("18: 9 10", x.steps(0, 9, 2, 1), 1);
        due("18: one TICKET", x.steps(0, 1, 1, 1), 1);
        due("18: no n", x.steps(0, 0, 0, 0), -2);
        due("18: no n", x.steps(0, 0, 61, 0), -2);
        due("18: no what", x.steps(0, 0, 3, 2), -2);
        due("18: no TICKET", x.steps(0, 81, 3, 0), -2);
        due("18: no LAW", x.steps(7, 0, 3, 0), -2);
    }

    private static void chances() {
        LuckyTicket x = Check.rolled(FOUR);
        due("19", x.chance(0, 0), 19);
        due("19", x.chance(0, 1), 81);
        due("19: lowest terms", x.chance(2, 0), 1);
        due("19: lowest terms", x.chance(2, 1), 9);
        due("19: of none", x.chance(3, 0), 0);
        due("19: of none", x.chance(3, 1), 1);
        due("19: of all", x.chance(4, 1), 1);
        due("19: no what", x.chance(0, 2), -2);
        due("19: no LAW", x.chance(7, 0), -2);
        // 81 by 162 less 9
        due("20", x.share(2, 0), 9);
        due("20", x.share(2, 1), 17);
        due("20: all are", x.share(4, 0), 1);
        due("20: all are", x.share(4, 1), 1);
        due("20: none is", x.share(3, 0), -1);
        due("20: no what", x.share(3, 2), -2);
        due("20: no what", x.share(0, -1), -2);
        due("20: no LAW", x.share(7, 0), -2);
        due("21: itself", x.whose(0, 0), 0);
        due("21: 1 .. 10", x.whose(0, 1), 1);
        due("21: 2 .. 10", x.whose(0, 2), 0);
        due("21: nobody", x.whose(3, 0), -1);
        due("21: no TICKET", x.whose(0, 81), -2);
        due("21: no LAW", x.whose(7, 0), -2);
        LuckyTicket y = Check.rolled("roll length 2 base 2;law sum 0;");
        due("21: not round", y.whose(0, 1), -1);
    }

    private static void severalLaws() {
        LuckyTicket x = Check.rolled("roll length 2 base 3;law half;law sum 2;law sum 1;");
        due("22: all LAWS of none", x.both(0), 9);
        due("22", x.both(1), 3);
        due("22", x.both(3), 1);
        due("22", x.both(7), 0);
        due("22: no such LAW", x.both(8), -2);
        due("22: no set", x.both(-1), -2);
        due("22: no set", x.both(LEAST), -2);
        // 00 and 22 by half alone, 11 by two, 02 20 by sum 2, 01 10 by sum 1, 12 21 by none
        due("23", x.just(0), 2);
        due("23", x.just(1), 2);
        due("23", x.just(3), 1);
        due("23", x.just(2), 2);
        due("23", x.just(5), 0);
        due("23: no such LAW", x.just(8), -2);
        due("23: no set", x.just(-1), -2);
        due("24", x.so(0), 2);
        due("24", x.so(1), 6);
        due("24", x.so(2), 1);
        due("24", x.so(3), 0);
        due("24: more than LAWS", x.so(9), 0);
        due("24: no n", x.so(10), -2);
        due("24: no n", x.so(-1), -2);
        LuckyTicket y = Check.rolled(FOUR);
        due("25", y.alike(0, 1), 0);
        due("25: itself", y.alike(3, 3), 1);
        due("25: no LAW", y.alike(0, 7), -2);
        due("25: no LAW", y.alike(7, 0), -2);
        // 4 is 0011: by odd alone
        due("26", y.differ(0, 1), 4);
        due("26", y.differ(1, 0), 4);
        due("26: itself", y.differ(0, 0), -1);
        due("26: no LAW", y.differ(0, -1), -2);
        due("26: no LAW", y.differ(-1, 0), -2);
    }

    private static void wornOnes() {
        LuckyTicket x = Check.rolled(FOUR);
        due("27: nothing", x.worn(0, 0, 0), -6);
        x.row(0, 0, 4);
        x.write(0, 1, -1);
        x.write(0, 2, 1);
        x.write(0, 3, 3);
        // 0 ? 1 ?: lucky are 0110 0211
        due("27: TICKETS", x.worn(0, 0, 0), 9);
        due("27: LUCKY", x.worn(0, 0, 1), 2);
        due("27: the first", x.worn(0, 0, 2), 12);
        due("27: gone", x.worn(0, 0, 3), 10);
        due("27: none is", x.worn(0, 3, 1), 0);
        due("27: none is", x.worn(0, 3, 2), -1);
        due("27: no what", x.worn(0, 0, 4), -2);
        due("27: no what", x.worn(0, 0, -1), -2);
        due("27: no LAW", x.worn(0, 7, 0), -2);
        due("27: no SLOT", x.worn(4, 0, 0), -2);
        due("27: no SLOT", x.worn(-1, 0, 0), -2);
        due("28", x.likely(0, 0, 1, 1), 1);
        due("28", x.likely(0, 0, 1, 2), 1);
        due("28", x.likely(0, 0, 1, 0), 0);
        due("28: told", x.likely(0, 0, 2, 1), 2);
        due("28: told otherwise", x.likely(0, 0, 2, 2), 0);
        due("28: no FIGURE", x.likely(0, 0, 1, 3), -2);
        due("28: no FIGURE", x.likely(0, 0, 1, -1), -2);
        due("28: no PLACE", x.likely(0, 0, 4, 1), -2);
        due("28: no PLACE", x.likely(0, 0, -1, 1), -2);
        due("28: no LAW", x.likely(0, 7, 1, 1), -2);
        due("28: no SLOT", x.likely(4, 0, 1, 1), -2);
        due("28: nothing", x.likely(1, 0, 1, 1), -6);
        x.row(2, 0, 3);
        due("27: too few", x.worn(2, 0, 0), -7);
        due("28: too few", x.likely(2, 0, 1, 1), -7);
        x.row(2, 3, 5);
        due("27: too many", x.worn(2, 0, 0), -7);
        x.row(2, 3, 4);
        x.write(2, 0, 1L << 32);
        due("27: a great number is none", x.worn(2, 0, 3), 1);
    }

    private static void mending() {
        LuckyTicket x = Check.rolled(FOUR);
        due("29: is one", x.mend(0, 0), 0);
        due("29", x.mend(0, 1), 1);
        // 0022: 2022 0222 and 0020.. are not, 1122 is two off, and so is 0000
        due("29", x.mend(0, 8), 2);
        due("29: none is", x.mend(3, 0), -1);
        due("29: no TICKET", x.mend(0, 81), -2);
        due("29: no LAW", x.mend(7, 0), -2);
        due("30: is one", x.mended(0, 10), 10);
        due("30: 0001 to 0000", x.mended(0, 1), 0);
        due("30: 0022 to 0000", x.mended(0, 8), 0);
        // 2221: one figure off is 2222 alone, and 2121, 1221
        due("30: 2221 to 1221", x.mended(0, 79), 52);
        due("30: none is", x.mended(3, 0), -1);
        due("30: no TICKET", x.mended(0, -1), -2);
        due("30: no LAW", x.mended(7, 0), -2);
        due("31: of two the lesser", x.nearest(0, 5), 0);
        due("31", x.nearest(0, 6), 10);
        due("31: itself", x.nearest(0, 10), 10);
        due("31: none is", x.nearest(3, 0), -1);
        due("31: no TICKET", x.nearest(0, 81), -2);
        due("31: no LAW", x.nearest(7, 0), -2);
        // 0012 to 0010
        due("32", x.about(5), 3);
        due("32", x.about(0), 8);
        due("32", x.about(80), 72);
        due("32: no TICKET", x.about(81), -2);
        due("32: no TICKET", x.about(-1), -2);
        LuckyTicket y = Check.rolled("roll length 3 base 4;law sum 9;");
        // 213 to 210
        due("32: an odd length", y.about(39), 36);
        due("31: none below", y.nearest(0, 0), 63);
        LuckyTicket one = Check.rolled("roll length 1 base 7;");
        due("32: no half", one.about(3), 3);
    }

    private static void draws() {
        LuckyTicket x = Check.rolled(FOUR);
        // 12345 / 65536 is 0; then x is 1406932606, 654583775, 1449466924 (21468 9988 22117)
        due("33: draw 0 of 19", x.draw(0, 0), 0);
        // 21468 modulo 19 is 17
        due("33: from 12345", x.draw(0, 12345), 70);
        due("33: none is", x.draw(3, 0), -1);
        due("33: no seed", x.draw(0, -1), -2);
        due("33: no seed", x.draw(3, 2000000001), -2);
        due("33: no LAW", x.draw(7, 0), -2);
        due("33: all", x.draw(4, 2000000000), drawn(2000000000L, 81));
        // TICKETS 0, 21468 % 81 = 3, 9988 % 81 = 25, 22117 % 81 = 4
        due("34", x.sold(0, 0, 1), 1);
        due("34", x.sold(0, 0, 4), 1);
        due("34: 4 is 0011", x.sold(1, 0, 4), 2);
        due("34: all", x.sold(4, 7, 60), 60);
        due("34: no n", x.sold(0, 0, 0), -2);
        due("34: no n", x.sold(0, 0, 61), -2);
        due("34: no seed", x.sold(0, -1, 1), -2);
        due("34: no seed", x.sold(0, 2000000001, 1), -2);
        due("34: no LAW", x.sold(7, 0, 1), -2);
        due("35", x.first(0, 0, 5), 1);
        due("35: 3, 25, 4", x.first(1, 12345, 3), 3);
        due("35: 3, 25", x.first(1, 12345, 2), -1);
        due("35: none is", x.first(3, 0, 60), -1);
        due("35: no n", x.first(0, 0, 0), -2);
        due("35: no n", x.first(0, 0, 61), -2);
        due("35: no seed", x.first(0, LEAST, 1), -2);
        due("35: no LAW", x.first(7, 0, 1), -2);
    }

    private static long drawn(long seed, int n) {
        return Math.floorMod(1103515245L * seed + 12345L, 2147483648L) / 65536 % n;
    }

    private static void sets() {
        LuckyTicket x = Check.rolled(FOUR);
        due("36: none LUCKY of 1", x.seldom(2, 1, 0), 72);
        due("36", x.seldom(2, 2, 0), 72 * 71 / 2);
        due("36", x.seldom(2, 2, 1), 72 * 71 / 2 + 9 * 72);
        due("36: all", x.seldom(2, 2, 2), 3240);
        due("36: more than there are", x.seldom(2, 2, 4), 3240);
        due("36", x.seldom(2, 4, 3), 1663740 - 126);
        due("36: none is", x.seldom(3, 4, 0), 1663740);
        due("36: no n", x.seldom(2, 0, 0), -2);
        due("36: no n", x.seldom(2, 5, 0), -2);
        due("36: no k", x.seldom(2, 1, 5), -2);
        due("36: no k", x.seldom(2, 1, -1), -2);
        due("36: no LAW", x.seldom(7, 1, 0), -2);
        due("37", x.sets(0), 1);
        due("37", x.sets(1), 81);
        due("37", x.sets(2), 3240);
        due("37", x.sets(3), 85320);
        due("37", x.sets(4), 1663740);
        due("37: no n", x.sets(5), -2);
        due("37: no n", x.sets(-1), -2);
        LuckyTicket two = Check.rolled("roll length 1 base 2;law sum 0;");
        due("37: more than there are", two.sets(3), 0);
        due("36: more than there are", two.seldom(0, 3, 4), 0);
        LuckyTicket great = Check.rolled("roll length 9 base 3;law not sum 0;");
        due("37: a great one", great.sets(4), 19683L * 19682 / 2 * 19681 / 3 * 19680 / 4);
        due("36: a great one", great.seldom(0, 4, 3), 19682L * 19681 / 2 * 19680 / 3);
    }

    private static void rowsOfTickets() {
        LuckyTicket x = Check.rolled(FOUR);
        due("38: nothing", x.judge(3, 0), -6);
        due("39: nothing", x.kept(3, 0), -6);
        x.row(3, 1, 0);
        due("38: of no numbers", x.judge(3, 0), 0);
        due("39: of no numbers", x.kept(3, 0), 0);
        x.row(3, 1, 5);
        long[] row = {0, 10, 10, 11, 12};
        for (int i = 0; i < row.length; i++) {
            x.write(3, i, row[i]);
        }
        due("38", x.judge(3, 0), 3);
        due("39: unlike ones", x.kept(3, 0), 3);
        x.write(3, 3, 20);
        due("38: all", x.judge(3, 0), 5);
        x.write(3, 0, 81);
        due("38: no TICKET", x.judge(3, 0), 0);
        due("39: no TICKET aside", x.kept(3, 0), 3);
        x.write(3, 0, -1);
        due("39: no TICKET aside", x.kept(3, 0), 3);
        due("38: no SLOT", x.judge(4, 0), -2);
        due("38: no LAW", x.judge(3, 7), -2);
        due("39: no SLOT", x.kept(-1, 0), -2);
        due("39: no LAW", x.kept(3, 7), -2);
        x.row(3, 3, 1);
        x.write(3, 0, (1L << 32) + 10);
        due("38: a great number", x.judge(3, 0), 0);
        due("39: a great number", x.kept(3, 0), 0);
    }

    private static void stretches() {
        LuckyTicket x = Check.rolled(FOUR);
        due("40", x.between(0, 0, 12), 3);
        due("40: both", x.between(0, 10, 12), 2);
        due("40: one", x.between(0, 10, 10), 1);
        due("40: all", x.between(0, 0, 80), 19);
        due("40: one of all", x.between(4, 0, 0), 1);
        due("40: turned", x.between(0, 5, 4), -2);
        due("40: no TICKET", x.between(0, 0, 81), -2);
        due("40: no TICKET", x.between(0, -1, 0), -2);
        due("40: no LAW", x.between(7, 0, 1), -2);
        due("41", x.run(0, 0), 1);
        due("41", x.run(0, 1), 0);
        due("41: all", x.run(4, 0), 81);
        due("41: none", x.run(3, 0), 0);
        due("41: none", x.run(3, 1), -1);
        due("41: no what", x.run(0, 2), -2);
        due("41: no LAW", x.run(7, 0), -2);
        LuckyTicket y = Check.rolled("roll length 3 base 2;law not sum 1;");
        // 0 3 5 6 7
        due("41: the last", y.run(0, 0), 3);
        due("41: the last", y.run(0, 1), 5);
        due("42: most", y.window(0, 2, 0), 2);
        due("42: most", y.window(0, 2, 1), 5);
        due("42: fewest", y.window(0, 2, 2), 0);
        due("42: fewest", y.window(0, 2, 3), 1);
        due("42: one", y.window(0, 1, 3), 1);
        due("42: the last", y.window(0, 3, 1), 5);
        due("42: all", y.window(0, 8, 0), 5);
        due("42: all", y.window(0, 8, 2), 5);
        due("42: all", y.window(0, 8, 3), 0);
        due("42: no n", y.window(0, 9, 0), -2);
        due("42: no n", y.window(0, 0, 0), -2);
        due("42: no what", y.window(0, 1, 4), -2);
        due("42: no LAW", y.window(1, 1, 0), -2);
        // 20 22 24 28 30
        due("42", x.window(0, 11, 0), 5);
        due("42", x.window(0, 11, 1), 20);
    }

    private static void figuresOfLucky() {
        LuckyTicket x = Check.rolled(FOUR);
        due("43", x.have(0, 4), 9);
        due("43", x.have(0, 2), 4);
        due("43", x.have(0, 1), 0);
        due("43", x.have(0, 0), 1);
        due("43: a great sum", x.have(0, GREATEST), 0);
        due("43: no sum", x.have(0, -1), -2);
        due("43: no LAW", x.have(7, 0), -2);
        // 00 01 02, 10 11 12, 20 21 22 ahead: 1 2 3, 2 3 2, 3 2 1
        due("44", x.at(0, 0, 0), 6);
        due("44", x.at(0, 0, 1), 7);
        due("44", x.at(0, 0, 2), 6);
        due("44: none is", x.at(3, 0, 0), 0);
        due("44: no FIGURE", x.at(0, 0, 3), -2);
        due("44: no FIGURE", x.at(0, 0, -1), -2);
        due("44: no PLACE", x.at(0, 4, 0), -2);
        due("44: no PLACE", x.at(0, -1, 0), -2);
        due("44: no LAW", x.at(7, 0, 0), -2);
        due("45", x.mostly(0, 0), 1);
        due("45: the least of several", x.mostly(2, 3), 0);
        due("45: none is", x.mostly(3, 0), -1);
        due("45: no PLACE", x.mostly(3, 4), -2);
        due("45: no LAW", x.mostly(7, 0), -2);
        // 0101: six, lucky 0101 0110 1001 1010
        due("46", x.same(0, 10, 0), 6);
        due("46", x.same(0, 10, 1), 4);
        due("46", x.same(0, 10, 2), 10);
        due("46", x.same(0, 36, 2), 10);
        due("46: none is", x.same(3, 10, 1), 0);
        due("46: none is", x.same(3, 10, 2), -1);
        due("46: one alone", x.same(0, 0, 0), 1);
        due("46: no what", x.same(0, 10, 3), -2);
        due("46: no TICKET", x.same(0, 81, 0), -2);
        due("46: no LAW", x.same(7, 0, 0), -2);
    }

    private static void walks() {
        LuckyTicket x = Check.rolled("roll length 3 base 2;law not sum 1;law sum 1;law places 0 like 0;law sum 9;");
        // 000 stands alone, 011 101 110 hang together by 111
        due("47", x.walk(0, 3, 5), 2);
        due("47", x.walk(0, 3, 7), 1);
        due("47: to itself", x.walk(0, 3, 3), 0);
        due("47: there is none", x.walk(0, 0, 3), -1);
        due("47: one is not", x.walk(0, 1, 3), -1);
        due("47: one is not", x.walk(0, 3, 1), -1);
        due("47: one is not, and the same", x.walk(0, 1, 1), -1);
        due("47: across", x.walk(2, 0, 7), 3);
        due("47: no TICKET", x.walk(0, 3, 8), -2);
        due("47: no TICKET", x.walk(0, -1, 3), -2);
        due("47: no LAW", x.walk(4, 3, 3), -2);
        due("48", x.islands(0, 0), 2);
        due("48", x.islands(0, 1), 4);
        due("48", x.islands(0, 2), 3);
        due("48: each alone", x.islands(1, 0), 3);
        due("48: each alone", x.islands(1, 1), 1);
        due("48: the first of several", x.islands(1, 2), 1);
        due("48: all", x.islands(2, 1), 8);
        due("48: none", x.islands(3, 0), 0);
        due("48: none", x.islands(3, 1), 0);
        due("48: none", x.islands(3, 2), -1);
        due("48: no what", x.islands(0, 3), -2);
        due("48: no LAW", x.islands(4, 0), -2);
        LuckyTicket y = Check.rolled("roll length 2 base 10;law places 0 like 0;");
        due("47: any FIGURE at once", y.walk(0, 0, 9), 1);
        due("47: any FIGURE at once", y.walk(0, 0, 99), 2);
    }

    private static void dates() {
        LuckyTicket x = new LuckyTicket();
        due("49", x.date(1), 101);
        due("49", x.date(31), 3101);
        due("49", x.date(32), 102);
        due("49", x.date(59), 2802);
        due("49", x.date(60), 103);
        due("49", x.date(365), 3112);
        due("49: no DAY", x.date(0), -2);
        due("49: no DAY", x.date(366), -2);
        // 1 and 10 January, 2, 11, 20 February
        due("50: from a LUCKY one", x.days(1), 9);
        due("50", x.days(10), 23);
        due("50", x.days(9), 1);
        due("50: round", x.days(365), 1);
        due("50: 30 December is one", x.days(363), 1);
        due("50: no DAY", x.days(0), -2);
        due("50: no DAY", x.days(366), -2);
        int[] months = {2, 3, 4, 3, 3, 3, 3, 3, 3, 2, 3, 4};
        for (int month = 1; month <= 12; month++) {
            due("51: month " + month, x.month(month), months[month - 1]);
        }
        due("51: no month", x.month(0), -2);
        due("51: no month", x.month(13), -2);
    }

    private static void longOnes() {
        LuckyTicket x = new LuckyTicket();
        due("52", x.of(4, 3, 4), 19);
        due("52", x.of(1, 2, 2), 0);
        due("52", x.of(12, 16, 180), 1);
        due("52", x.of(12, 16, 179), 12);
        due("52", x.of(12, 2, 6), 924);
        due("52: no sum", x.of(4, 3, -1), -2);
        due("52: no sum", x.of(4, 3, 181), -2);
        due("52: no length", x.of(0, 3, 1), -2);
        due("52: no length", x.of(13, 3, 1), -2);
        due("52: no base", x.of(4, 1, 1), -2);
        due("52: no base", x.of(4, 17, 1), -2);
        due("53", x.halves(6, 10), 55252);
        due("53", x.halves(4, 3), 19);
        due("53", x.halves(2, 16), 16);
        due("53", x.halves(12, 10), 39581170420L);
        due("53: an odd length", x.halves(3, 3), -2);
        due("53: no length", x.halves(0, 3), -2);
        due("53: no length", x.halves(14, 3), -2);
        due("53: no base", x.halves(2, 17), -2);
        due("54", x.middle(6, 10), 55252);
        due("54", x.middle(12, 10), 39581170420L);
        due("54: an odd length", x.middle(3, 2), 3);
        due("54: an odd length", x.middle(3, 3), 7);
        due("54", x.middle(1, 10), 1);
        due("54: no length", x.middle(13, 2), -2);
        due("54: no base", x.middle(3, 1), -2);
        due("55", x.most(6, 10), 27);
        due("55: the least of several", x.most(3, 2), 1);
        due("55: all alike", x.most(1, 10), 0);
        due("55", x.most(12, 16), 90);
        due("55: no length", x.most(0, 10), -2);
        due("55: no base", x.most(2, 1), -2);
        due("56", x.dice(3, 6, 10), 27);
        due("56", x.dice(2, 6, 7), 6);
        due("56: too few", x.dice(2, 6, 1), 0);
        due("56", x.dice(2, 6, 0), 0);
        due("56", x.dice(12, 16, 192), 1);
        due("56: too many", x.dice(12, 16, 200), 0);
        due("56: too many for any", x.dice(1, 2, 200), 0);
        due("56: no sum", x.dice(2, 6, 201), -2);
        due("56: no sum", x.dice(2, 6, -1), -2);
        due("56: no n", x.dice(13, 6, 1), -2);
        due("56: no n", x.dice(0, 6, 1), -2);
        due("56: no f", x.dice(2, 17, 1), -2);
        due("56: no f", x.dice(2, 1, 1), -2);
    }

    private static void counts() {
        LuckyTicket x = Check.rolled("roll length 3 base 4;law sum 1;law sum 2;");
        x.feed(0, 0, 0, 0, 0);
        x.row(1, 0, 0);
        x.row(3, 3, 60);
        int[] counts = {3, 4, 64, 2, 3, 20, 9, 2};
        for (int what = 0; what < counts.length; what++) {
            due("57: " + what, x.count(what), counts[what]);
        }
        due("57: another", x.count(8), -1);
        due("57: another", x.count(-1), -1);
    }

    private static void images() {
        LuckyTicket x = Check.rolled(FOUR);
        due("58", x.image(0), 0);
        due("58: no k", x.image(3), -2);
        due("58: no k", x.image(-1), -2);
        due("59: nothing", x.back(1), -6);
        due("59: no k", x.back(3), -2);
        due("59: no k", x.back(-1), -2);
        Check.feed(x, "roll length 3 base 4;law sum 9;");
        x.roll();
        due("58", x.image(1), 0);
        x.row(0, 0, 7);
        due("59", x.back(0), 0);
        due("59: the ROLL", x.count(2), 81);
        due("59: the ROLL", x.many(0), 19);
        due("59: the ROLL", x.count(4), 8);
        due("59: SLOTS stay", x.count(7), 1);
        due("59", x.back(1), 0);
        due("59: the other one", x.many(0), 1);
        due("59: the other one", x.figure(63, 0), 3);
        due("an empty ROLL", x.roll(), 0);
        due("58: no ROLL", x.image(2), 0);
        due("59", x.back(0), 0);
        due("59: as often as you like", x.many(0), 19);
        due("59: no ROLL", x.back(2), 0);
        due("59: no ROLL", x.many(0), -2);
        due("59: no ROLL", x.count(2), 0);
        Check.feed(x, "roll length 1 base 2;law odd;");
        x.roll();
        due("58: in place of another", x.image(0), 0);
        x.back(1);
        x.back(0);
        due("59: in place of another", x.count(2), 2);
        due("59: in place of another", x.laws(1), 0);
        Check.feed(x, "roll length 1 bas 2;");
        due("a fault", x.roll(), -4);
        x.back(1);
        due("59: the fault is the latest roll()'s", x.fault(0), 1);
    }

    private static void slots() {
        LuckyTicket x = Check.rolled("roll length 1 base 16;law places 0 like 0;");
        due("60", x.row(0, 0, 3), 0);
        due("60: no SLOT", x.row(4, 0, 3), -2);
        due("60: no SLOT", x.row(-1, 0, -3), -2);
        due("60: no WIDTH", x.row(0, 4, 3), -2);
        due("60: no WIDTH", x.row(0, -1, -3), -2);
        due("60: too many", x.row(0, 0, 61), -2);
        due("60: below nought", x.row(0, 0, -1), -3);
        due("60: below nought", x.row(1, 0, LEAST), -3);
        due("60: the SLOT stays", x.judge(0, 0), 3);
        due("60: the SLOT stays", x.judge(1, 0), -6);
        due("60: as many as may be", x.row(1, 3, 60), 0);
        due("61", x.write(0, 0, 15), 0);
        due("61: no SLOT", x.write(4, 0, 1), -2);
        due("61: nothing", x.write(2, 0, 1), -6);
        due("61: no number", x.write(0, 3, 1), -7);
        due("61: no number", x.write(0, -1, 1), -7);
        long[] cut = {256 + 5, 65536 + 5, (1L << 32) + 5};
        for (int width = 0; width < 4; width++) {
            x.row(2, width, 3);
            for (int i = 0; i < 3; i++) {
                x.write(2, i, cut[i]);
            }
            // those that are not cut are no TICKETS
            due("61: cut to WIDTH " + width, x.kept(2, 0), width < 3 ? 1 : 0);
            due("61: cut to WIDTH " + width, x.judge(2, 0), width == 0 ? 3 : 0);
        }
        due("60: all 0, in place of another", x.row(2, 2, 3), 0);
        due("60: all 0, in place of another", x.judge(2, 0), 3);
        due("60: all 0, in place of another", x.kept(2, 0), 1);
        pastes();
    }

    private static void pastes() {
        LuckyTicket x = Check.rolled("roll length 1 base 16;law places 0 like 0;");
        x.row(0, 1, 5);
        for (int i = 0; i < 5; i++) {
            x.write(0, i, i + 1);
        }
        x.row(1, 1, 3);
        x.row(2, 0, 5);
        due("62: no SLOT", x.paste(4, 0, 0, 0, 1), -2);
        due("62: no SLOT", x.paste(0, 0, -1, 0, 1), -2);
        due("62: one has nothing", x.paste(0, 0, 3, 0, 1), -6);
        due("62: one has nothing", x.paste(3, -1, 0, 0, 1), -6);
        due("62: other WIDTHS", x.paste(0, 0, 2, 0, 1), -8);
        due("62: other WIDTHS", x.paste(2, -1, 0, 0, 99), -8);
        due("62: beyond", x.paste(0, 0, 1, 0, 4), -7);
        due("62: beyond", x.paste(0, 3, 1, 0, 3), -7);
        due("62: beyond", x.paste(0, GREATEST, 1, 0, GREATEST), -7);
        due("62: below nought", x.paste(0, -1, 1, 0, 1), -7);
        due("62: below nought", x.paste(0, 0, 1, -1, 1), -7);
        due("62: below nought", x.paste(0, 0, 1, 0, -1), -7);
        due("62: nothing happened", x.kept(1, 0), 1);
        due("62: none", x.paste(0, 5, 1, 3, 0), 0);
        due("62: nothing happened", x.kept(1, 0), 1);
        due("62", x.paste(0, 1, 1, 1, 2), 0);
        due("62: 0 2 3", x.kept(1, 0), 3);
        due("62: its own", x.paste(0, 0, 0, 1, 4), 0);
        due("62: 1 1 2 3 4, as they were", x.kept(0, 0), 4);
        due("62: its own", x.paste(0, 2, 0, 0, 3), 0);
        due("62: 2 3 4 3 4", x.kept(0, 0), 3);
    }
}
