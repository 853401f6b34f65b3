/** Promises 49 to 56: DAYS, LONG tickets and dice, which need no ROLL. */
final class EdgesOfLongOnes {
    private static final int[] MONTHS = {31, 28, 31, 30, 31, 30, 31, 31, 30, 31, 30, 31};

    private final Edges edges;

    EdgesOfLongOnes(Edges edges) {
        this.edges = edges;
    }

    void ask() {
        dates();
        days();
        months();
        ofSums();
        halves();
        middles();
        mosts();
        dice();
        apartFromTheRoll();
    }

    private void due(String call, long got, long want) {
        edges.due(call, got, want);
    }

    private static boolean isLucky(int day, int month) {
        return day / 10 + day % 10 == month / 10 + month % 10;
    }

    private void dates() {
        edges.term("VI", "DAYS 1 .. 365 of a year (months of 31, 28, 31, 30, 31, 30, 31, 31, 30, 31, 30, 31): of four figures by ten, the day of the month by two, the month by two");
        LuckyTicket x = new LuckyTicket();
        int day = 0;
        for (int month = 1; month <= 12; month++) {
            due("the first of month " + month, x.date(day + 1), 100 + month);
            day += MONTHS[month - 1];
            due("the last of month " + month, x.date(day), MONTHS[month - 1] * 100 + month);
        }
        due("all days", day, 365);
        edges.promise(49, "the four figures of a DAY, as a number (101 .. 3,112)");
        due("the first", x.date(1), 101);
        due("the last", x.date(365), 3112);
        edges.promise(49, "-2: there is none such");
        edges.bounds("date", x::date, 1, 365);
    }

    private void days() {
        edges.promise(50, "Behind how many DAYS (1 .. 365, the first comes behind the last) a LUCKY one comes next");
        LuckyTicket x = new LuckyTicket();
        // 30 December is the last, 1 January the first LUCKY one
        due("from 29 December", x.days(363), 1);
        due("from 30 December, round", x.days(364), 2);
        due("from 31 December, round", x.days(365), 1);
        due("from 1 January to 10 January, not itself", x.days(1), 9);
        int from = 0;
        LuckyTicket y = new LuckyTicket();
        int[] want = wantedDays();
        for (int day = 1; day <= 365; day++) {
            due("days(" + day + ")", y.days(day), want[day]);
            from++;
        }
        due("all days", from, 365);
        edges.promise(50, "-2 likewise");
        edges.bounds("days", x::days, 1, 365);
    }

    private static int[] wantedDays() {
        boolean[] lucky = new boolean[366];
        int day = 1;
        for (int month = 1; month <= 12; month++) {
            for (int d = 1; d <= MONTHS[month - 1]; d++) {
                lucky[day] = isLucky(d, month);
                day++;
            }
        }
        int[] want = new int[366];
        for (int from = 1; from <= 365; from++) {
            int n = 1;
            while (!lucky[(from + n - 1) % 365 + 1]) {
                n++;
            }
            want[from] = n;
        }
        return want;
    }

    private void months() {
        edges.term("VI", "LUCKY by half");
        LuckyTicket year = new LuckyTicket();
        // 19 September is 1909: 1 + 9 is not 0 + 9; 18 September is 1809
        due("17 September to 18 September", year.days(260), 1);
        due("18 September to 27 September", year.days(261), 9);
        edges.promise(51, "LUCKY DAYS of a month (1 .. 12)");
        LuckyTicket x = new LuckyTicket();
        int[] want = {2, 3, 4, 3, 3, 3, 3, 3, 3, 2, 3, 4};
        for (int month = 1; month <= 12; month++) {
            due("month(" + month + ")", x.month(month), want[month - 1]);
        }
        edges.promise(51, "-2: there is none such");
        edges.bounds("month", x::month, 1, 12);
    }

    /** How many of a length and a base have each sum: one PLACE more each time. */
    private static long[] table(int length, int base) {
        long[] ways = new long[181];
        ways[0] = 1;
        for (int place = 0; place < length; place++) {
            long[] more = new long[181];
            for (int sum = 0; sum <= 180; sum++) {
                for (int figure = 0; figure < base && figure <= sum; figure++) {
                    more[sum] += ways[sum - figure];
                }
            }
            ways = more;
        }
        return ways;
    }

    private void ofSums() {
        edges.term("V", "LONG tickets of any length 1 .. 12 and base 2 .. 16 (apart from the ROLL): OF a sum: how many have it");
        for (int length : new int[] {1, 2, 11, 12}) {
            LuckyTicket x = new LuckyTicket();
            for (int base = 2; base <= 16; base++) {
                long[] want = table(length, base);
                int greatest = (base - 1) * length;
                for (int sum : new int[] {0, 1, greatest / 2, greatest - 1, greatest}) {
                    due("of(" + length + ", " + base + ", " + sum + ")", x.of(length, base, sum), want[sum]);
                }
                due("beyond the greatest", x.of(length, base, Math.min(greatest + 1, 180)), greatest == 180 ? 1 : 0);
            }
        }
        edges.promise(52, "OF a sum (0 .. 180)");
        LuckyTicket x = new LuckyTicket();
        due("0", x.of(12, 16, 0), 1);
        due("180", x.of(12, 16, 180), 1);
        due("179", x.of(12, 16, 179), 12);
        due("180 of few", x.of(1, 2, 180), 0);
        due("15 of one", x.of(1, 16, 15), 1);
        due("16 of one", x.of(1, 16, 16), 0);
        edges.promise(52, "-2: there are none such");
        edges.bounds("of(length, 16, 0)", length -> x.of(length, 16, 0), 1, 12);
        edges.bounds("of(12, base, 0)", base -> x.of(12, base, 0), 2, 16);
        edges.bounds("of(12, 16, sum)", sum -> x.of(12, 16, sum), 0, 180);
        edges.bounds("of(1, 2, sum)", sum -> x.of(1, 2, sum), 0, 180);
    }

    private void halves() {
        edges.term("V", "HALVES (of an even length): as half");
        LuckyTicket x = new LuckyTicket();
        for (int length = 2; length <= 12; length += 2) {
            for (int base = 2; base <= 16; base++) {
                long want = 0;
                for (long ways : table(length / 2, base)) {
                    want += ways * ways;
                }
                due("halves(" + length + ", " + base + ")", x.halves(length, base), want);
            }
        }
        edges.promise(53, "-2: there are none such (an odd length)");
        for (int length = -1; length <= 15; length += 2) {
            due("an odd length: " + length, x.halves(length, 2), -2);
        }
        due("0", x.halves(0, 2), -2);
        due("14", x.halves(14, 2), -2);
        due("the least", x.halves(Edges.LEAST, 2), -2);
        due("the greatest", x.halves(Edges.GREATEST, 2), -2);
        edges.bounds("halves(2, base)", base -> x.halves(2, base), 2, 16);
        edges.bounds("halves(12, base)", base -> x.halves(12, base), 2, 16);
    }

    private void middles() {
        edges.term("V", "MIDDLE: of the sum (base less 1) times length by 2, cut");
        LuckyTicket x = new LuckyTicket();
        for (int length = 1; length <= 12; length++) {
            for (int base = 2; base <= 16; base++) {
                due("middle(" + length + ", " + base + ")", x.middle(length, base), table(length, base)[(base - 1) * length / 2]);
            }
        }
        due("as many as of halves", x.middle(12, 16), x.halves(12, 16));
        due("cut to 0", x.middle(1, 2), 1);
        edges.promise(54, "-2 likewise, but of an odd length, too");
        edges.bounds("middle(length, 2)", length -> x.middle(length, 2), 1, 12);
        edges.bounds("middle(1, base)", base -> x.middle(1, base), 2, 16);
        due("an odd length", x.middle(3, 2), 3);
        due("an odd length", x.middle(11, 2), 462);
    }

    private void mosts() {
        edges.promise(55, "The sum of which most are OF, the least of several");
        LuckyTicket x = new LuckyTicket();
        for (int base = 2; base <= 16; base++) {
            due("of one all are alike", x.most(1, base), 0);
        }
        due("1 and 2", x.most(3, 2), 1);
        due("5 and 6", x.most(11, 2), 5);
        due("of two", x.most(2, 16), 15);
        due("the greatest", x.most(12, 16), 90);
        edges.promise(55, "-2: there are none such");
        edges.bounds("most(length, 2)", length -> x.most(length, 2), 1, 12);
        edges.bounds("most(1, base)", base -> x.most(1, base), 2, 16);
    }

    private void dice() {
        edges.promise(56, "How many of n (1 .. 12) dice of f (2 .. 16) faces (1 .. f) that are thrown come to a sum (0 .. 200)");
        LuckyTicket x = new LuckyTicket();
        long[] one = {0, 1, 1, 0};
        for (int sum = 0; sum < one.length; sum++) {
            due("dice(1, 2, " + sum + ")", x.dice(1, 2, sum), one[sum]);
        }
        due("16 of one", x.dice(1, 16, 16), 1);
        due("17 of one", x.dice(1, 16, 17), 0);
        due("11 of twelve", x.dice(12, 16, 11), 0);
        due("12 of twelve", x.dice(12, 16, 12), 1);
        due("13 of twelve", x.dice(12, 16, 13), 12);
        due("191 of twelve", x.dice(12, 16, 191), 12);
        due("192 of twelve", x.dice(12, 16, 192), 1);
        due("193 of twelve", x.dice(12, 16, 193), 0);
        due("0 of twelve", x.dice(12, 16, 0), 0);
        due("200 of twelve", x.dice(12, 16, 200), 0);
        due("200 of one", x.dice(1, 2, 200), 0);
        edges.promise(56, "-2: there are none such");
        edges.bounds("dice(n, 2, 0)", n -> x.dice(n, 2, 0), 1, 12);
        edges.bounds("dice(1, f, 0)", f -> x.dice(1, f, 0), 2, 16);
        edges.bounds("dice(1, 2, sum)", sum -> x.dice(1, 2, sum), 0, 200);
        edges.bounds("dice(12, 16, sum)", sum -> x.dice(12, 16, sum), 0, 200);
    }

    private void apartFromTheRoll() {
        edges.term("V", "(apart from the ROLL)");
        LuckyTicket x = Check.rolled("roll length 3 base 2;law half;");
        due("of", x.of(12, 16, 180), 1);
        due("halves", x.halves(6, 10), 55252);
        due("middle", x.middle(6, 10), 55252);
        due("most", x.most(6, 10), 27);
        due("dice", x.dice(3, 6, 10), 27);
        due("date", x.date(365), 3112);
        due("days", x.days(365), 1);
        due("month", x.month(12), 4);
        due("length stays", x.count(0), 3);
        due("TICKETS stay", x.count(2), 8);
        due("LUCKY ones stay", x.many(0), 4);
    }
}
