/**
 * Promises 6 to 26: one TICKET, LUCKY ones in their order, STEPS, chances, several LAWS.
 *
 * <p>EIGHT has TICKETS 0 .. 7 and LAWS 0 .. 4: LUCKY are 1 2 4, none, all, 7 alone, 0 alone.
 */
final class EdgesOfOrder {
    static final String EIGHT = "roll length 3 base 2;law sum 1;law sum 9;law not by 1;law sum 3;law sum 0;";

    private static final int LEAST = Edges.LEAST;
    private static final int GREATEST = Edges.GREATEST;
    private static final String GREAT = "roll length 9 base 3;law mirror;law sum 18;law not sum 18;";

    private final Edges edges;

    EdgesOfOrder(Edges edges) {
        this.edges = edges;
    }

    void ask() {
        kinds();
        figures();
        sums();
        luck();
        many();
        ranks();
        neighbours();
        nths();
        gaps();
        waits();
        hits();
        steps();
        lastSteps();
        chances();
        shares();
        whose();
        sets();
        so();
        likes();
    }

    private void due(String call, long got, long want) {
        edges.due(call, got, want);
    }

    private void kinds() {
        edges.term("II", "the first half (length by 2, cut, PLACES) is that of as many at the end");
        LuckyTicket one = Check.rolled("roll length 1 base 4;law half;law odd;law mirror;law unlike;law square;");
        due("of length 1: no PLACES, all", one.many(0), 4);
        // 10110 and 10010: the PLACE in the middle is of neither half
        LuckyTicket five = Check.rolled("roll length 5 base 2;law half;law odd;");
        due("10110", five.lucky(0, 22), 1);
        due("10010", five.lucky(0, 18), 1);
        due("11100", five.lucky(0, 28), 0);
        edges.term("II", "odd: the sum of those at even PLACES (0, 2, ..) is that of the others");
        due("of length 1: 0 alone", one.many(1), 1);
        due("of length 1: 0 alone", one.lucky(1, 0), 1);
        due("11000", five.lucky(1, 24), 1);
        due("10100", five.lucky(1, 20), 0);
        edges.term("II", "mirror: alike from both ends; unlike: no two alike");
        due("of length 1: all", one.many(2), 4);
        due("of length 1: all", one.many(3), 4);
        LuckyTicket x = Check.rolled("roll length 3 base 2;law unlike;law mirror;");
        due("more PLACES than FIGURES: none", x.many(0), 0);
        due("the middle is like itself", x.many(1), 4);
        due("as many PLACES as FIGURES", Check.rolled("roll length 3 base 3;law unlike;").many(0), 6);
        edges.term("II", "square: the sum of all is a square (0, too)");
        // 0 1 of 0 .. 3
        due("0 1", one.many(4), 2);
        due("0", one.lucky(4, 0), 1);
        due("2", one.lucky(4, 2), 0);
        LuckyTicket three = Check.rolled("roll length 3 base 16;law square;law sum 45;law sum 46;law rest 0 of 1;"
                + "law rest 19 of 20;law rest 5 of 20;");
        due("36: FF6", three.lucky(0, 0xFF6), 1);
        due("37: FF7", three.lucky(0, 0xFF7), 0);
        due("35: FF5", three.lucky(0, 0xFF5), 0);
        edges.term("II", "sum N: it is N; rest N of M: it leaves N by M");
        due("the greatest sum", three.many(1), 1);
        due("beyond it", three.many(2), 0);
        due("rest 0 of 1: all", three.many(3), 4096);
        due("19", three.lucky(4, 0x9A0), 1);
        due("39", three.lucky(4, 0xFF9), 1);
        due("20", three.lucky(4, 0xAA0), 0);
        due("45", three.lucky(5, 0xFFF), 1);
        due("5", three.lucky(5, 5), 1);
        joinedKinds();
    }

    private void joinedKinds() {
        edges.term("II", "places: the sums of both sides are alike; by N: by LAW N; and, or, not as ever");
        LuckyTicket x = Check.rolled("roll length 3 base 4;law places 0 like 1 2;law places 0 1 2 like 0 1 2;"
                + "law by 0 and not by 0;law by 0 or not by 0;law not (by 1 and by 0);law places 1 2 like 0;law places 2 like 2;");
        // 000 101 110 202 211 220 303 312 321 330
        due("one side of two PLACES", x.many(0), 10);
        due("321", x.lucky(0, 57), 1);
        due("123", x.lucky(0, 27), 0);
        due("both sides the same", x.many(1), 64);
        due("so, and not so", x.many(2), 0);
        due("so, or not so", x.many(3), 64);
        due("not both", x.many(4), 54);
        due("the sides turned", x.alike(0, 5), 1);
        due("a PLACE like itself", x.many(6), 64);
    }

    private void figures() {
        edges.term("II", "A TICKET is a number 0 .. TICKETS less 1; its FIGURES, PLACE 0 first, are those by which it is written in base, noughts ahead");
        LuckyTicket x = Check.rolled(GREAT);
        for (int place = 0; place < 9; place++) {
            due("0", x.figure(0, place), 0);
            due("noughts ahead of 1", x.figure(1, place), place == 8 ? 1 : 0);
            due("PLACE 0 first", x.figure(6561, place), place == 0 ? 1 : 0);
            due("the last one", x.figure(19682, place), 2);
        }
        due("TICKETS", x.figure(19683, 0), -2);
        edges.promise(6, "-2: there are none such");
        LuckyTicket eight = Check.rolled(EIGHT);
        edges.bounds("figure(ticket, 2)", ticket -> eight.figure(ticket, 2), 0, 7);
        edges.bounds("figure(7, place)", place -> eight.figure(7, place), 0, 2);
        LuckyTicket one = Check.rolled("roll length 1 base 16;");
        edges.bounds("figure(15, place)", place -> one.figure(15, place), 0, 0);
        due("figure(15, 0)", one.figure(15, 0), 15);
    }

    private void sums() {
        edges.promise(7, "what 0: the sum of its FIGURES, 1: of the first half, 2: of the last half, 3: of even PLACES, 4: of odd ones, 5: how many unlike FIGURES it has");
        LuckyTicket x = Check.rolled("roll length 3 base 16;");
        int[] all = {45, 15, 15, 30, 15, 1};
        int[] none = {0, 0, 0, 0, 0, 1};
        int[] some = {6, 1, 3, 4, 2, 3};
        for (int what = 0; what <= 5; what++) {
            due("FFF", x.sums(4095, what), all[what]);
            due("000", x.sums(0, what), none[what]);
            due("123", x.sums(0x123, what), some[what]);
        }
        LuckyTicket one = Check.rolled("roll length 1 base 16;");
        int[] alone = {15, 0, 0, 15, 0, 1};
        for (int what = 0; what <= 5; what++) {
            due("F of length 1", one.sums(15, what), alone[what]);
        }
        LuckyTicket twelve = Check.rolled("roll length 12 base 2;");
        int[] twelves = {12, 6, 6, 6, 6, 1};
        for (int what = 0; what <= 5; what++) {
            due("of length 12", twelve.sums(4095, what), twelves[what]);
        }
        due("of length 12", twelve.sums(63, 1), 0);
        due("of length 12", twelve.sums(63, 2), 6);
        edges.promise(7, "-2: there are none such");
        edges.bounds("sums(ticket, 5)", ticket -> x.sums(ticket, 5), 0, 4095);
        edges.bounds("sums(0, what)", what -> x.sums(0, what), 0, 5);
    }

    private void luck() {
        edges.promise(8, "-2: there are none such");
        LuckyTicket x = Check.rolled(EIGHT);
        edges.bounds("lucky(law, 0)", law -> x.lucky(law, 0), 0, 4);
        edges.bounds("lucky(4, ticket)", ticket -> x.lucky(4, ticket), 0, 7);
        due("lucky(4, 0)", x.lucky(4, 0), 1);
        due("lucky(3, 7)", x.lucky(3, 7), 1);
        due("lucky(3, 0)", x.lucky(3, 0), 0);
        LuckyTicket nine = Check.rolled("roll length 1 base 2;" + "law sum 1;".repeat(9));
        edges.bounds("lucky(law, 1) of nine", law -> nine.lucky(law, 1), 0, 8);
        due("lucky(8, 1) of nine", nine.lucky(8, 1), 1);
        edges.promise(9, "LAWS by which it is, as bits");
        due("0", x.laws(0), 4 + 16);
        due("7", x.laws(7), 4 + 8);
        due("1", x.laws(1), 1 + 4);
        due("all nine", nine.laws(1), 511);
        due("none of nine", nine.laws(0), 0);
        due("without LAWS", Check.rolled("roll length 1 base 2;").laws(1), 0);
        edges.promise(9, "-2: there is no such TICKET");
        edges.bounds("laws", x::laws, 0, 7);
    }

    private void many() {
        edges.promise(10, "How many TICKETS are LUCKY by a LAW");
        LuckyTicket x = Check.rolled(EIGHT);
        due("none", x.many(1), 0);
        due("all", x.many(2), 8);
        due("one", x.many(4), 1);
        LuckyTicket great = Check.rolled(GREAT);
        due("of 19,683", great.many(2), 19682);
        edges.promise(10, "-2: there is no such LAW");
        edges.bounds("many", x::many, 0, 4);
    }

    private void ranks() {
        edges.promise(11, "below a number (0 .. TICKETS). -2: there are none such");
        LuckyTicket x = Check.rolled(EIGHT);
        edges.bounds("rank(2, number)", number -> x.rank(2, number), 0, 8);
        edges.bounds("rank(law, 8)", law -> x.rank(law, 8), 0, 4);
        due("below 0", x.rank(4, 0), 0);
        due("below 1", x.rank(4, 1), 1);
        due("below the last one", x.rank(3, 7), 0);
        due("below TICKETS", x.rank(3, 8), 1);
        due("all", x.rank(2, 8), 8);
        due("of none", x.rank(1, 8), 0);
    }

    private void neighbours() {
        edges.promise(12, "NONE: there is none (not round)");
        LuckyTicket x = Check.rolled(EIGHT);
        due("behind the last LUCKY one", x.next(0, 4), -1);
        due("behind the last TICKET", x.next(2, 7), -1);
        due("itself alone", x.next(4, 0), -1);
        due("itself alone", x.next(3, 7), -1);
        due("of none", x.next(1, 0), -1);
        due("the last TICKET", x.next(3, 6), 7);
        due("the last TICKET from the first", x.next(3, 0), 7);
        due("at once", x.next(2, 0), 1);
        edges.promise(12, "-2: there are none such");
        edges.bounds("next(2, ticket)", ticket -> x.next(2, ticket), 0, 7);
        edges.bounds("next(law, 0)", law -> x.next(law, 0), 0, 4);
        edges.promise(13, "The last LUCKY one ahead of it; NONE likewise");
        due("ahead of the first LUCKY one", x.last(0, 1), -1);
        due("ahead of the first TICKET", x.last(2, 0), -1);
        due("itself alone", x.last(4, 0), -1);
        due("itself alone", x.last(3, 7), -1);
        due("of none", x.last(1, 7), -1);
        due("the first TICKET", x.last(4, 1), 0);
        due("the first TICKET from the last", x.last(4, 7), 0);
        due("at once", x.last(2, 7), 6);
        edges.promise(13, "-2 likewise");
        edges.bounds("last(2, ticket)", ticket -> x.last(2, ticket), 0, 7);
        edges.bounds("last(law, 7)", law -> x.last(law, 7), 0, 4);
    }

    private void nths() {
        edges.promise(14, "The i-th (from 0) LUCKY one; NONE: there are not so many");
        LuckyTicket x = Check.rolled(EIGHT);
        due("the first", x.nth(0, 0), 1);
        due("the last", x.nth(0, 2), 4);
        due("not so many", x.nth(0, 3), -1);
        due("the last of all", x.nth(2, 7), 7);
        due("not so many", x.nth(2, 8), -1);
        due("of none", x.nth(1, 0), -1);
        due("the greatest", x.nth(2, GREATEST), -1);
        due("below 0", x.nth(2, -1), -1);
        due("the least", x.nth(2, LEAST), -1);
        edges.promise(14, "-2: there is no such LAW");
        edges.bounds("nth(law, 0)", law -> x.nth(law, 0), 0, 4);
        due("nth(5, -1)", x.nth(5, -1), -2);
    }

    private void gaps() {
        edges.term("III", "GAP: TICKETS between two LUCKY ones with none between (not round)");
        LuckyTicket x = Check.rolled(EIGHT);
        // 1 2 4: from 4 round to 1 there would be four
        due("not round", x.gap(0, 0), 1);
        due("not round", x.gap(0, 1), 2);
        edges.promise(15, "what 0: how many TICKETS lie between, 1: behind which one (the first such)");
        // 0 3 6
        LuckyTicket odd = Check.rolled("roll length 3 base 2;law odd;law sum 0 or sum 3;");
        due("two of like length", odd.gap(0, 0), 2);
        due("the first such", odd.gap(0, 1), 0);
        due("from the first to the last", odd.gap(1, 0), 6);
        due("from the first to the last", odd.gap(1, 1), 0);
        due("none between", x.gap(2, 0), 0);
        due("none between", x.gap(2, 1), 0);
        edges.promise(15, "NONE: fewer than two are LUCKY");
        for (int what = 0; what <= 1; what++) {
            due("one", x.gap(3, what), -1);
            due("one", x.gap(4, what), -1);
            due("none", x.gap(1, what), -1);
        }
        edges.promise(15, "-2: there are none such");
        edges.bounds("gap(law, 0)", law -> x.gap(law, 0), 0, 4);
        edges.bounds("gap(0, what)", what -> x.gap(0, what), 0, 1);
        edges.bounds("gap(1, what)", what -> x.gap(1, what), 0, 1);
    }

    private void waits() {
        edges.term("II", "that many more, round (behind the last one 0)");
        LuckyTicket x = Check.rolled(EIGHT);
        due("behind 7 there is 0", x.waits(4, 7, 1), 1);
        due("behind 6 by two there is 0", x.waits(4, 6, 2), 1);
        due("behind 7 by two there is 1", x.waits(0, 7, 2), 1);
        due("7, 0, 1", x.hits(4, 7, 1, 3), 1);
        edges.promise(16, "behind how many STEPS (1 .. TICKETS; of 1 .. 9,999 each)");
        due("as many as TICKETS: itself", x.waits(3, 7, 1), 8);
        due("as many as TICKETS: itself", x.waits(4, 0, 7), 8);
        due("one", x.waits(3, 6, 1), 1);
        due("round at once", x.waits(3, 7, 8), 1);
        due("9,999 is 7 round", x.waits(3, 0, 9999), 1);
        due("9,999 is 7 round", x.waits(4, 0, 9999), 8);
        LuckyTicket great = Check.rolled(GREAT);
        due("19,683 STEPS", great.waits(1, 19682, 1), 19683);
        due("19,683 STEPS of 9,998", great.waits(1, 19682, 9998), 19683);
        edges.promise(16, "NONE: none does");
        due("0 2 4 6", x.waits(3, 0, 2), -1);
        due("itself alone", x.waits(3, 0, 8), -1);
        due("of none", x.waits(1, 0, 1), -1);
        due("by thirds", great.waits(1, 0, 9999), -1);
        edges.promise(16, "-2: there are none such");
        edges.bounds("waits(0, 0, step)", step -> x.waits(0, 0, step), 1, 9999);
        edges.bounds("waits(0, ticket, 1)", ticket -> x.waits(0, ticket, 1), 0, 7);
        edges.bounds("waits(law, 0, 1)", law -> x.waits(law, 0, 1), 0, 4);
    }

    private void hits() {
        edges.promise(17, "How many of n (0 .. 20,000) TICKETS are LUCKY, from one on by STEPS (itself the first)");
        LuckyTicket x = Check.rolled(EIGHT);
        due("of none", x.hits(2, 0, 1, 0), 0);
        due("itself", x.hits(3, 7, 1, 1), 1);
        due("not yet round", x.hits(3, 7, 1, 8), 1);
        due("round", x.hits(3, 7, 1, 9), 2);
        due("20,000", x.hits(2, 0, 1, 20000), 20000);
        due("20,000 by 9,999", x.hits(3, 7, 9999, 20000), 2500);
        due("itself alone, again and again", x.hits(3, 7, 8, 20000), 20000);
        due("never", x.hits(3, 0, 8, 20000), 0);
        LuckyTicket great = Check.rolled(GREAT);
        due("round 19,683", great.hits(1, 19682, 1, 19683), 1);
        due("round 19,683", great.hits(1, 19682, 1, 19684), 2);
        due("the greatest of all", great.hits(2, 19682, 9999, 20000), 20000 - greatHits());
        edges.promise(17, "-2: there are none such");
        edges.bounds("hits(0, 0, 1, n)", n -> x.hits(0, 0, 1, n), 0, 20000);
        edges.bounds("hits(0, 0, step, 1)", step -> x.hits(0, 0, step, 1), 1, 9999);
        edges.bounds("hits(0, ticket, 1, 1)", ticket -> x.hits(0, ticket, 1, 1), 0, 7);
        edges.bounds("hits(law, 0, 1, 1)", law -> x.hits(law, 0, 1, 1), 0, 4);
    }

    /** How often 19,682 is met among 20,000 from itself on by 9,999. */
    private static int greatHits() {
        int all = 0;
        for (long i = 0; i < 20000; i++) {
            all += (19682 + 9999 * i) % 19683 == 19682 ? 1 : 0;
        }
        return all;
    }

    private void steps() {
        edges.promise(18, "of n (1 .. 60) TICKETS from one on by STEPS none is LUCKY (what 0), or most are (what 1)");
        LuckyTicket x = Check.rolled(EIGHT);
        due("one that is not", x.steps(3, 0, 1, 0), 1);
        due("one that is not", x.steps(3, 0, 1, 1), 1);
        due("one that is", x.steps(3, 7, 1, 1), 1);
        due("60: 0 2 4 6", x.steps(3, 0, 60, 0), 2);
        due("60: 7 alone", x.steps(3, 7, 60, 1), 8);
        due("60 of all", x.steps(2, 0, 60, 1), 1);
        due("60 of none", x.steps(1, 0, 60, 0), 1);
        due("60 of none: nought is the most", x.steps(1, 0, 60, 1), 1);
        edges.promise(18, "NONE: by none (what 0)");
        due("itself is", x.steps(3, 7, 1, 0), -1);
        due("all are", x.steps(2, 0, 60, 0), -1);
        edges.promise(18, "-2: there are none such");
        edges.bounds("steps(0, 0, n, 0)", n -> x.steps(0, 0, n, 0), 1, 60);
        edges.bounds("steps(0, 0, 1, what)", what -> x.steps(0, 0, 1, what), 0, 1);
        edges.bounds("steps(0, ticket, 1, 1)", ticket -> x.steps(0, ticket, 1, 1), 0, 7);
        edges.bounds("steps(law, 0, 1, 1)", law -> x.steps(law, 0, 1, 1), 0, 4);
    }

    private void lastSteps() {
        edges.promise(18, "The least STEP (1 .. 999)");
        LuckyTicket x = Check.rolled("roll length 3 base 10;law sum 27;law not sum 0 and not sum 27;law not sum 0;");
        due("to 999 by 999", x.steps(0, 0, 2, 1), 999);
        due("none but 0 and 999", x.steps(1, 0, 2, 0), 999);
        due("none but by 1,000", x.steps(2, 0, 2, 0), -1);
        due("998 to 999", x.steps(0, 998, 2, 1), 1);
        LuckyTicket great = Check.rolled("roll length 4 base 10;law sum 36;");
        due("9,999 lies beyond 999: nought is the most", great.steps(0, 0, 2, 1), 1);
        due("by 999 it is the eleventh", great.steps(0, 9, 11, 1), 999);
    }

    private void chances() {
        edges.term("IV", "FRACTIONS are told in lowest terms: above and below");
        LuckyTicket half = Check.rolled("roll length 3 base 2;law mirror;law sum 1;");
        due("4 by 8", half.chance(0, 0), 1);
        due("4 by 8", half.chance(0, 1), 2);
        due("8 by 12", half.share(0, 0), 2);
        due("8 by 12", half.share(0, 1), 3);
        edges.term("IV", "CHANCE of a LAW: LUCKY ones by TICKETS");
        due("3 by 8", half.chance(1, 0), 3);
        due("3 by 8", half.chance(1, 1), 8);
        edges.term("IV", "TICKETS by (twice TICKETS less LUCKY ones)");
        due("8 by 13", half.share(1, 0), 8);
        due("8 by 13", half.share(1, 1), 13);
        edges.promise(19, "CHANCE (IV), above (what 0), below (1); of none: 0, 1");
        LuckyTicket x = Check.rolled(EIGHT);
        due("of none", x.chance(1, 0), 0);
        due("of none", x.chance(1, 1), 1);
        due("of all", x.chance(2, 0), 1);
        due("of all", x.chance(2, 1), 1);
        due("of one", x.chance(3, 0), 1);
        due("of one", x.chance(3, 1), 8);
        due("of three", x.chance(0, 0), 3);
        due("of three", x.chance(0, 1), 8);
        edges.promise(19, "-2: there are none such");
        edges.bounds("chance(law, 1)", law -> x.chance(law, 1), 0, 4);
        edges.bounds("chance(0, what)", what -> x.chance(0, what), 0, 1);
    }

    private void shares() {
        edges.promise(20, "SHARE (IV) of who begins, above (what 0), below (1)");
        LuckyTicket x = Check.rolled(EIGHT);
        due("of all", x.share(2, 0), 1);
        due("of all", x.share(2, 1), 1);
        due("of one", x.share(3, 0), 8);
        due("of one", x.share(3, 1), 15);
        LuckyTicket great = Check.rolled(GREAT);
        due("one of 19,683", great.share(1, 0), 19683);
        due("one of 19,683", great.share(1, 1), 39365);
        edges.promise(20, "NONE: none is LUCKY");
        due("of none", x.share(1, 0), -1);
        due("of none", x.share(1, 1), -1);
        edges.promise(20, "-2 likewise");
        edges.bounds("share(law, 1)", law -> x.share(law, 1), 0, 4);
        edges.bounds("share(0, what)", what -> x.share(0, what), 0, 1);
        edges.bounds("share(1, what)", what -> x.share(1, what), 0, 1);
    }

    private void whose() {
        edges.promise(21, "one after the other to the last: who has the first LUCKY one: 0 who begins, 1 the other; NONE: nobody");
        LuckyTicket x = Check.rolled(EIGHT);
        due("at once", x.whose(3, 7), 0);
        due("the other, and the last", x.whose(3, 6), 1);
        due("the other, after seven", x.whose(3, 0), 1);
        due("who begins, after six", x.whose(3, 1), 0);
        due("not round", x.whose(4, 1), -1);
        due("not round", x.whose(0, 7), -1);
        due("of none", x.whose(1, 0), -1);
        edges.promise(21, "-2: there are none such");
        edges.bounds("whose(2, ticket)", ticket -> x.whose(2, ticket), 0, 7);
        edges.bounds("whose(law, 0)", law -> x.whose(law, 0), 0, 4);
    }

    private void sets() {
        edges.promise(22, "all LAWS of a set (bits). -2: there are none such, no ROLL");
        LuckyTicket x = Check.rolled(EIGHT);
        edges.bounds("both", x::both, 0, 31);
        due("no LAWS: all", x.both(0), 8);
        due("all LAWS", x.both(31), 0);
        due("0", x.both(4 + 16), 1);
        due("no ROLL", new LuckyTicket().both(0), -2);
        LuckyTicket without = Check.rolled("roll length 2 base 3;");
        edges.bounds("both without LAWS", without::both, 0, 0);
        due("without LAWS", without.both(0), 9);
        LuckyTicket nine = Check.rolled("roll length 1 base 2;" + "law sum 1;".repeat(9));
        edges.bounds("both of nine", nine::both, 0, 511);
        due("all nine", nine.both(511), 1);
        edges.promise(23, "how many are LUCKY by just the LAWS of a set. -2 likewise");
        edges.bounds("just", x::just, 0, 31);
        due("by none", x.just(0), 0);
        due("by all", x.just(31), 0);
        due("3 5 6", x.just(4), 3);
        due("0", x.just(4 + 16), 1);
        due("16 alone", x.just(16), 0);
        due("no ROLL", new LuckyTicket().just(0), -2);
        edges.bounds("just without LAWS", without::just, 0, 0);
        due("without LAWS", without.just(0), 9);
        edges.bounds("just of nine", nine::just, 0, 511);
        due("all nine", nine.just(511), 1);
        due("none of nine", nine.just(0), 1);
        due("eight of nine", nine.just(255), 0);
    }

    private void so() {
        edges.promise(24, "LUCKY by just n (0 .. 9) LAWS. -2: there are none such, no ROLL");
        LuckyTicket x = Check.rolled(EIGHT);
        edges.bounds("so", x::so, 0, 9);
        due("by none", x.so(0), 0);
        due("by one", x.so(1), 3);
        due("by two", x.so(2), 5);
        due("by more than there are", x.so(6), 0);
        due("by nine", x.so(9), 0);
        LuckyTicket nine = Check.rolled("roll length 1 base 2;" + "law sum 1;".repeat(9));
        due("by nine", nine.so(9), 1);
        due("by none", nine.so(0), 1);
        due("without LAWS", Check.rolled("roll length 2 base 3;").so(0), 9);
        due("without LAWS", Check.rolled("roll length 2 base 3;").so(9), 0);
        due("no ROLL", new LuckyTicket().so(0), -2);
    }

    private void likes() {
        edges.promise(25, "-2: there are none such");
        LuckyTicket x = Check.rolled(EIGHT);
        edges.bounds("alike(law, 4)", law -> x.alike(law, 4), 0, 4);
        edges.bounds("alike(4, other)", other -> x.alike(4, other), 0, 4);
        due("itself", x.alike(4, 4), 1);
        due("of none, itself", x.alike(1, 1), 1);
        due("by the last one alone", x.alike(1, 3), 0);
        due("by the first one alone", x.alike(4, 1), 0);
        edges.promise(26, "NONE: there is none");
        due("itself", x.differ(2, 2), -1);
        due("of none, itself", x.differ(1, 1), -1);
        due("the first", x.differ(1, 4), 0);
        due("the last", x.differ(1, 3), 7);
        due("the last", x.differ(3, 1), 7);
        edges.promise(26, "-2 likewise");
        edges.bounds("differ(law, 4)", law -> x.differ(law, 4), 0, 4);
        edges.bounds("differ(4, other)", other -> x.differ(4, other), 0, 4);
    }
}
