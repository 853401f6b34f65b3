import java.util.Arrays;

/**
 * A roll of tickets told as a text, with laws by which they are lucky.
 *
 * <p>Every method answers a number; a number below nought that the document names stands for what
 * is not to be had. Nothing here throws.
 */
public final class LuckyTicket {
    public static final int NONE = -1;

    private static final int NO_SUCH = -2;
    private static final int BELOW_NOUGHT = -3;
    private static final int FAULTY = -4;
    private static final int HAS_NOTHING = -6;
    private static final int BEYOND = -7;
    private static final int OTHER_WIDTH = -8;

    private static final int MOST_LENGTH = 12;
    private static final int MOST_BASE = 16;
    private static final int MOST_TICKETS = 20000;
    private static final int MOST_LAWS = 9;
    private static final int MOST_DRAWS = 60;
    private static final int MOST_SEED = 2000000000;
    private static final int MOST_OF_SET = 4;

    private final Tape tape;
    private final Script script;
    private final Reader reader;
    private final Roll current;
    private final Roll[] images;
    private final boolean[] imaged;
    private final Row[] slots;
    private final Search search;
    private final SumTable sumTable;
    private final int[] figureCounts;

    public LuckyTicket() {
        tape = new Tape();
        script = new Script();
        reader = new Reader(tape, script);
        current = new Roll();
        images = new Roll[] {new Roll(), new Roll(), new Roll()};
        imaged = new boolean[images.length];
        slots = new Row[] {new Row(), new Row(), new Row(), new Row()};
        search = new Search();
        sumTable = new SumTable();
        figureCounts = new int[MOST_BASE];
    }

    // ---- the tape and the roll ----

    public int feed(int a, int b, int c, int d, int e) {
        if (!tape.hasRoomFor(20)) {
            return NONE;
        }
        tape.append(a);
        tape.append(b);
        tape.append(c);
        tape.append(d);
        tape.append(e);
        return tape.size;
    }

    public int end(int n) {
        if (n < 0 || n > tape.size) {
            return NONE;
        }
        tape.size = n;
        return n;
    }

    public int roll() {
        reader.readTape();
        if (reader.fault != 0) {
            return FAULTY;
        }
        tape.size = 0;
        current.buildFrom(script);
        return current.lines;
    }

    public int fault(int what) {
        if (what == 0) {
            return reader.fault;
        }
        return what == 1 ? reader.faultPlace : NONE;
    }

    // ---- one ticket ----

    public int figure(int ticket, int place) {
        if (!current.hasTicket(ticket) || !current.hasPlace(place)) {
            return NO_SUCH;
        }
        return Figures.figureAt(current.faceOf(ticket), current.length, place);
    }

    public int sums(int ticket, int what) {
        if (!current.hasTicket(ticket)) {
            return NO_SUCH;
        }
        long face = current.faceOf(ticket);
        int length = current.length;
        switch (what) {
            case 0:
                return Figures.sumOf(face);
            case 1:
                return Figures.sumOf(face & Figures.firstHalf(length));
            case 2:
                return Figures.sumOf(face & Figures.lastHalf(length));
            case 3:
                return Figures.sumOf(face & Figures.everySecond(length, 0));
            case 4:
                return Figures.sumOf(face & Figures.everySecond(length, 1));
            case 5:
                return Figures.kindsOf(face, length);
            default:
                return NO_SUCH;
        }
    }

    public int lucky(int law, int ticket) {
        return hasBoth(law, ticket) ? current.luckBit(law, ticket) : NO_SUCH;
    }

    public int laws(int ticket) {
        return current.hasTicket(ticket) ? current.luckOf(ticket) : NO_SUCH;
    }

    // ---- lucky ones in their order ----

    public int many(int law) {
        return current.hasLaw(law) ? current.total(law) : NO_SUCH;
    }

    public int rank(int law, int number) {
        if (!current.hasLaw(law) || !isWithin(number, 0, current.tickets)) {
            return NO_SUCH;
        }
        return current.tally(law, 0, number);
    }

    public int next(int law, int ticket) {
        return hasBoth(law, ticket) ? current.seekUp(law, ticket + 1) : NO_SUCH;
    }

    public int last(int law, int ticket) {
        return hasBoth(law, ticket) ? current.seekDown(law, ticket - 1) : NO_SUCH;
    }

    public int nth(int law, int i) {
        return current.hasLaw(law) ? current.pick(law, i) : NO_SUCH;
    }

    public int gap(int law, int what) {
        if (!current.hasLaw(law) || !isWithin(what, 0, 1)) {
            return NO_SUCH;
        }
        int before = NONE;
        int longest = NONE;
        int behind = NONE;
        for (int ticket = 0; ticket < current.tickets; ticket++) {
            if (current.isLucky(law, ticket)) {
                if (before != NONE && ticket - before - 1 > longest) {
                    longest = ticket - before - 1;
                    behind = before;
                }
                before = ticket;
            }
        }
        return what == 0 ? longest : behind;
    }

    // ---- steps ----

    public int waits(int law, int ticket, int step) {
        if (!hasBoth(law, ticket) || !isStep(step)) {
            return NO_SUCH;
        }
        int place = ticket;
        for (int day = 1; day <= current.tickets; day++) {
            place = current.onward(place, step);
            if (current.isLucky(law, place)) {
                return day;
            }
        }
        return NONE;
    }

    public int hits(int law, int ticket, int step, int n) {
        if (!hasBoth(law, ticket) || !isStep(step) || !isWithin(n, 0, MOST_TICKETS)) {
            return NO_SUCH;
        }
        return current.tallyBySteps(law, ticket, step, n);
    }

    public int steps(int law, int ticket, int n, int what) {
        if (!hasBoth(law, ticket) || !isWithin(n, 1, 60) || !isWithin(what, 0, 1)) {
            return NO_SUCH;
        }
        int most = NONE;
        int mostStep = NONE;
        for (int step = 1; step <= 999; step++) {
            int hit = current.tallyBySteps(law, ticket, step, n);
            if (what == 0 && hit == 0) {
                return step;
            }
            if (hit > most) {
                most = hit;
                mostStep = step;
            }
        }
        return what == 0 ? NONE : mostStep;
    }

    // ---- chances, and two who share a roll ----

    public int chance(int law, int what) {
        if (!current.hasLaw(law) || !isWithin(what, 0, 1)) {
            return NO_SUCH;
        }
        return lowestTerm(current.total(law), current.tickets, what);
    }

    public int share(int law, int what) {
        if (!current.hasLaw(law) || !isWithin(what, 0, 1)) {
            return NO_SUCH;
        }
        int total = current.total(law);
        return total == 0 ? NONE : lowestTerm(current.tickets, 2 * current.tickets - total, what);
    }

    public int whose(int law, int ticket) {
        if (!hasBoth(law, ticket)) {
            return NO_SUCH;
        }
        int found = current.seekUp(law, ticket);
        return found == NONE ? NONE : (found - ticket) & 1;
    }

    // ---- several laws ----

    public int both(int set) {
        if (!current.hasSet(set)) {
            return NO_SUCH;
        }
        int all = 0;
        for (int ticket = 0; ticket < current.tickets; ticket++) {
            if ((current.luckOf(ticket) & set) == set) {
                all++;
            }
        }
        return all;
    }

    public int just(int set) {
        if (!current.hasSet(set)) {
            return NO_SUCH;
        }
        int all = 0;
        for (int ticket = 0; ticket < current.tickets; ticket++) {
            if (current.luckOf(ticket) == set) {
                all++;
            }
        }
        return all;
    }

    public int so(int n) {
        if (!current.stands() || !isWithin(n, 0, MOST_LAWS)) {
            return NO_SUCH;
        }
        int all = 0;
        for (int ticket = 0; ticket < current.tickets; ticket++) {
            if (Integer.bitCount(current.luckOf(ticket)) == n) {
                all++;
            }
        }
        return all;
    }

    public int alike(int law, int other) {
        if (!current.hasLaw(law) || !current.hasLaw(other)) {
            return NO_SUCH;
        }
        return current.firstUnlike(law, other) == NONE ? 1 : 0;
    }

    public int differ(int law, int other) {
        if (!current.hasLaw(law) || !current.hasLaw(other)) {
            return NO_SUCH;
        }
        return current.firstUnlike(law, other);
    }

    // ---- worn ones, and figures to be changed ----

    public int worn(int slot, int law, int what) {
        if (!hasSlot(slot) || !current.hasLaw(law) || !isWithin(what, 0, 3)) {
            return NO_SUCH;
        }
        Row row = slots[slot];
        int refusal = refusalOfWorn(row);
        if (refusal != 0) {
            return refusal;
        }
        long known = knownPlaces(row);
        long figures = knownFigures(row);
        switch (what) {
            case 0:
                return power(current.base, Integer.bitCount(gonePlaces(row)));
            case 1:
                return current.tallyFitting(law, known, figures);
            case 2:
                return current.firstFitting(law, known, figures);
            default:
                return gonePlaces(row);
        }
    }

    public int likely(int slot, int law, int place, int figure) {
        if (!hasSlot(slot) || !current.hasLaw(law)
                || !current.hasPlace(place) || !current.hasFigure(figure)) {
            return NO_SUCH;
        }
        Row row = slots[slot];
        int refusal = refusalOfWorn(row);
        if (refusal != 0) {
            return refusal;
        }
        long there = row.numberAt(place);
        if (current.hasFigure(there) && there != figure) {
            return 0;
        }
        long mask = Figures.maskAt(current.length, place);
        long told = Figures.figureTold(current.length, place, figure);
        return current.tallyFitting(law, knownPlaces(row) | mask, knownFigures(row) | told);
    }

    public int mend(int law, int ticket) {
        return hasBoth(law, ticket) ? current.fewestChanges(law, ticket) : NO_SUCH;
    }

    public int mended(int law, int ticket) {
        if (!hasBoth(law, ticket)) {
            return NO_SUCH;
        }
        int fewest = current.fewestChanges(law, ticket);
        long face = current.faceOf(ticket);
        for (int other = 0; other < current.tickets; other++) {
            if (current.isLucky(law, other) && Figures.changes(face, current.faceOf(other)) == fewest) {
                return other;
            }
        }
        return NONE;
    }

    public int nearest(int law, int ticket) {
        if (!hasBoth(law, ticket)) {
            return NO_SUCH;
        }
        int below = current.seekDown(law, ticket);
        int above = current.seekUp(law, ticket);
        if (below == NONE || above == NONE) {
            return below == NONE ? above : below;
        }
        return ticket - below <= above - ticket ? below : above;
    }

    public int about(int ticket) {
        if (!current.hasTicket(ticket)) {
            return NO_SUCH;
        }
        int part = power(current.base, current.length / 2);
        if (part < 1) {
            return NO_SUCH;
        }
        int low = ticket % part;
        return ticket - low + (part - 1 - low);
    }

    // ---- draws ----

    public int draw(int law, int seed) {
        if (!current.hasLaw(law) || !isWithin(seed, 0, MOST_SEED)) {
            return NO_SUCH;
        }
        int total = current.total(law);
        return total == 0 ? NONE : current.pick(law, drawOf(stirred(seed), total));
    }

    public int sold(int law, int seed, int n) {
        if (!current.hasLaw(law) || !isWithin(seed, 0, MOST_SEED) || !isWithin(n, 1, MOST_DRAWS)) {
            return NO_SUCH;
        }
        long x = seed;
        int all = 0;
        for (int i = 0; i < n; i++) {
            x = stirred(x);
            all += current.luckBit(law, drawOf(x, current.tickets));
        }
        return all;
    }

    public int first(int law, int seed, int n) {
        if (!current.hasLaw(law) || !isWithin(seed, 0, MOST_SEED) || !isWithin(n, 1, MOST_DRAWS)) {
            return NO_SUCH;
        }
        long x = seed;
        for (int i = 1; i <= n; i++) {
            x = stirred(x);
            if (current.isLucky(law, drawOf(x, current.tickets))) {
                return i;
            }
        }
        return NONE;
    }

    // ---- sets, and rows of tickets ----

    public long seldom(int law, int n, int k) {
        if (!current.hasLaw(law) || !isWithin(n, 1, MOST_OF_SET) || !isWithin(k, 0, MOST_OF_SET)) {
            return NO_SUCH;
        }
        int total = current.total(law);
        long all = 0;
        for (int lucky = 0; lucky <= k && lucky <= n; lucky++) {
            all += choices(total, lucky) * choices(current.tickets - total, n - lucky);
        }
        return all;
    }

    public long sets(int n) {
        if (!current.stands() || !isWithin(n, 0, MOST_OF_SET)) {
            return NO_SUCH;
        }
        return choices(current.tickets, n);
    }

    public int judge(int slot, int law) {
        if (!hasSlot(slot) || !current.hasLaw(law)) {
            return NO_SUCH;
        }
        Row row = slots[slot];
        if (!row.stands()) {
            return HAS_NOTHING;
        }
        for (int i = 0; i < row.size; i++) {
            if (!current.isLuckyNumber(law, row.numberAt(i))) {
                return i;
            }
        }
        return row.size;
    }

    public int kept(int slot, int law) {
        if (!hasSlot(slot) || !current.hasLaw(law)) {
            return NO_SUCH;
        }
        Row row = slots[slot];
        if (!row.stands()) {
            return HAS_NOTHING;
        }
        int all = 0;
        for (int i = 0; i < row.size; i++) {
            if (current.isLuckyNumber(law, row.numberAt(i)) && row.isNewAt(i)) {
                all++;
            }
        }
        return all;
    }

    // ---- stretches of the roll ----

    public int between(int law, int ticket, int to) {
        if (!hasBoth(law, ticket) || !current.hasTicket(to) || ticket > to) {
            return NO_SUCH;
        }
        return current.tally(law, ticket, to + 1);
    }

    public int run(int law, int what) {
        if (!current.hasLaw(law) || !isWithin(what, 0, 1)) {
            return NO_SUCH;
        }
        int longest = 0;
        int longestFrom = NONE;
        int here = 0;
        for (int ticket = 0; ticket < current.tickets; ticket++) {
            here = current.isLucky(law, ticket) ? here + 1 : 0;
            if (here > longest) {
                longest = here;
                longestFrom = ticket - here + 1;
            }
        }
        return what == 0 ? longest : longestFrom;
    }

    public int window(int law, int n, int what) {
        if (!current.hasLaw(law) || !isWithin(n, 1, current.tickets) || !isWithin(what, 0, 3)) {
            return NO_SUCH;
        }
        int sign = what < 2 ? 1 : -1;
        int inside = current.tally(law, 0, n);
        int best = inside;
        int bestFrom = 0;
        for (int from = 1; from + n <= current.tickets; from++) {
            inside += current.luckBit(law, from + n - 1) - current.luckBit(law, from - 1);
            if (sign * inside > sign * best) {
                best = inside;
                bestFrom = from;
            }
        }
        return (what & 1) == 0 ? best : bestFrom;
    }

    // ---- figures of lucky ones ----

    public int have(int law, int sum) {
        if (!current.hasLaw(law) || sum < 0) {
            return NO_SUCH;
        }
        int all = 0;
        for (int ticket = 0; ticket < current.tickets; ticket++) {
            if (current.isLucky(law, ticket) && Figures.sumOf(current.faceOf(ticket)) == sum) {
                all++;
            }
        }
        return all;
    }

    public int at(int law, int place, int figure) {
        if (!current.hasLaw(law) || !current.hasPlace(place) || !current.hasFigure(figure)) {
            return NO_SUCH;
        }
        countFigures(law, place);
        return countedFigure(figure);
    }

    public int mostly(int law, int place) {
        if (!current.hasLaw(law) || !current.hasPlace(place)) {
            return NO_SUCH;
        }
        countFigures(law, place);
        int most = 0;
        int mostFigure = NONE;
        for (int figure = 0; figure < current.base; figure++) {
            if (countedFigure(figure) > most) {
                most = countedFigure(figure);
                mostFigure = figure;
            }
        }
        return mostFigure;
    }

    public int same(int law, int ticket, int what) {
        if (!hasBoth(law, ticket) || !isWithin(what, 0, 2)) {
            return NO_SUCH;
        }
        long face = current.faceOf(ticket);
        int sum = Figures.sumOf(face);
        long counts = Figures.countsOf(face, current.length);
        int all = 0;
        for (int other = 0; other < current.tickets; other++) {
            // the sums are cheap to compare and set most tickets aside
            long otherFace = current.faceOf(other);
            boolean alike = Figures.sumOf(otherFace) == sum
                    && Figures.countsOf(otherFace, current.length) == counts;
            if (alike && (what == 0 || current.isLucky(law, other))) {
                if (what == 2) {
                    return other;
                }
                all++;
            }
        }
        return what == 2 ? NONE : all;
    }

    // ---- walks ----

    public int walk(int law, int ticket, int to) {
        if (!hasBoth(law, ticket) || !current.hasTicket(to)) {
            return NO_SUCH;
        }
        if (!current.isLucky(law, ticket) || !current.isLucky(law, to)) {
            return NONE;
        }
        search.prepare(current);
        search.spread(current, law, ticket);
        return search.changesTo(to);
    }

    public int islands(int law, int what) {
        if (!current.hasLaw(law) || !isWithin(what, 0, 2)) {
            return NO_SUCH;
        }
        search.prepare(current);
        int all = 0;
        int greatest = 0;
        int greatestFirst = NONE;
        for (int ticket = 0; ticket < current.tickets; ticket++) {
            if (current.isLucky(law, ticket) && !search.isReached(ticket)) {
                int size = search.spread(current, law, ticket);
                all++;
                if (size > greatest) {
                    greatest = size;
                    greatestFirst = ticket;
                }
            }
        }
        if (what == 0) {
            return all;
        }
        return what == 1 ? greatest : greatestFirst;
    }

    // ---- days of a year ----

    public int date(int day) {
        return Year.hasDay(day) ? Year.figuresOf(day) : NO_SUCH;
    }

    public int days(int day) {
        if (!Year.hasDay(day)) {
            return NO_SUCH;
        }
        int other = day;
        for (int behind = 1; behind <= Year.DAYS; behind++) {
            other = other == Year.DAYS ? 1 : other + 1;
            if (Year.isLuckyDate(Year.figuresOf(other))) {
                return behind;
            }
        }
        return NONE;
    }

    public int month(int month) {
        if (!isWithin(month, 1, 12)) {
            return NO_SUCH;
        }
        int all = 0;
        for (int day = 1; day <= Year.lengthOf(month); day++) {
            if (Year.isLuckyDate(day * 100 + month)) {
                all++;
            }
        }
        return all;
    }

    // ---- long tickets and dice ----

    public long of(int length, int base, int sum) {
        if (!isLong(length, base) || !isWithin(sum, 0, SumTable.MOST_SUM)) {
            return NO_SUCH;
        }
        sumTable.fill(length, base);
        return sumTable.waysTo(sum);
    }

    public long halves(int length, int base) {
        if (!isLong(length, base) || length % 2 != 0) {
            return NO_SUCH;
        }
        sumTable.fill(length / 2, base);
        long all = 0;
        for (int sum = 0; sum <= SumTable.MOST_SUM; sum++) {
            all += sumTable.waysTo(sum) * sumTable.waysTo(sum);
        }
        return all;
    }

    public long middle(int length, int base) {
        if (!isLong(length, base)) {
            return NO_SUCH;
        }
        sumTable.fill(length, base);
        return sumTable.waysTo((base - 1) * length / 2);
    }

    public int most(int length, int base) {
        if (!isLong(length, base)) {
            return NO_SUCH;
        }
        sumTable.fill(length, base);
        int mostSum = 0;
        for (int sum = 1; sum <= SumTable.MOST_SUM; sum++) {
            if (sumTable.waysTo(sum) > sumTable.waysTo(mostSum)) {
                mostSum = sum;
            }
        }
        return mostSum;
    }

    public long dice(int n, int f, int sum) {
        if (!isLong(n, f) || !isWithin(sum, 0, 200)) {
            return NO_SUCH;
        }
        // a die's faces begin at 1, a figure at 0
        sumTable.fill(n, f);
        return sumTable.waysTo(sum - n);
    }

    // ---- counts and images ----

    public int count(int what) {
        switch (what) {
            case 0:
                return current.length;
            case 1:
                return current.base;
            case 2:
                return current.tickets;
            case 3:
                return current.laws;
            case 4:
                return current.lines;
            case 5:
                return tape.size;
            case 6:
                return current.totalByAny();
            case 7:
                return standingSlots();
            default:
                return NONE;
        }
    }

    public int image(int k) {
        if (!isWithin(k, 0, images.length - 1)) {
            return NO_SUCH;
        }
        images[k].copyFrom(current);
        imaged[k] = true;
        return 0;
    }

    public int back(int k) {
        if (!isWithin(k, 0, images.length - 1)) {
            return NO_SUCH;
        }
        if (!imaged[k]) {
            return HAS_NOTHING;
        }
        current.copyFrom(images[k]);
        return 0;
    }

    // ---- slots ----

    public int row(int slot, int width, int n) {
        if (!hasSlot(slot) || !isWithin(width, 0, 3) || n > Row.MOST) {
            return NO_SUCH;
        }
        if (n < 0) {
            return BELOW_NOUGHT;
        }
        slots[slot].begin(width, n);
        return 0;
    }

    public int write(int slot, int i, long v) {
        if (!hasSlot(slot)) {
            return NO_SUCH;
        }
        Row row = slots[slot];
        if (!row.stands()) {
            return HAS_NOTHING;
        }
        if (!row.hasStretch(i, 1)) {
            return BEYOND;
        }
        row.put(i, v);
        return 0;
    }

    public int paste(int slot, int i, int to, int k, int n) {
        if (!hasSlot(slot) || !hasSlot(to)) {
            return NO_SUCH;
        }
        Row from = slots[slot];
        Row into = slots[to];
        if (!from.stands() || !into.stands()) {
            return HAS_NOTHING;
        }
        if (from.width != into.width) {
            return OTHER_WIDTH;
        }
        if (!from.hasStretch(i, n) || !into.hasStretch(k, n)) {
            return BEYOND;
        }
        into.take(k, from, i, n);
        return 0;
    }

    // ---- what the calls above share ----

    private static boolean isWithin(int n, int least, int greatest) {
        return n >= least && n <= greatest;
    }

    private static boolean isStep(int step) {
        return isWithin(step, 1, 9999);
    }

    private static boolean isLong(int length, int base) {
        return isWithin(length, 1, MOST_LENGTH) && isWithin(base, 2, MOST_BASE);
    }

    private boolean hasBoth(int law, int ticket) {
        return current.hasLaw(law) && current.hasTicket(ticket);
    }

    private boolean hasSlot(int slot) {
        return isWithin(slot, 0, slots.length - 1);
    }

    private int standingSlots() {
        int all = 0;
        for (int slot = 0; slot < slots.length; slot++) {
            if (slots[slot].stands()) {
                all++;
            }
        }
        return all;
    }

    /** base to the power; stops short of overflow, as no roll is greater than MOST_TICKETS. */
    private static int power(int base, int exponent) {
        int product = 1;
        for (int i = 0; i < exponent && product <= MOST_TICKETS; i++) {
            product *= base;
        }
        return product;
    }

    private static int lowestTerm(int above, int below, int what) {
        int divisor = above;
        int rest = below;
        // the rest falls each time, and by half at least every other time
        for (int i = 0; i < 64 && rest > 0; i++) {
            int left = divisor % rest;
            divisor = rest;
            rest = left;
        }
        if (divisor < 1) {
            return 0;
        }
        return (what == 0 ? above : below) / divisor;
    }

    private static long choices(int from, int n) {
        long all = 1;
        for (int i = 0; i < n && i < MOST_OF_SET; i++) {
            all = all * Math.max(from - i, 0) / (i + 1);
        }
        return all;
    }

    private static long stirred(long x) {
        return (1103515245L * x + 12345L) & 0x7FFFFFFFL;
    }

    private static int drawOf(long x, int n) {
        return n < 1 ? 0 : (int) (x / 65536 % n);
    }

    private int refusalOfWorn(Row row) {
        if (!row.stands()) {
            return HAS_NOTHING;
        }
        return row.size == current.length ? 0 : BEYOND;
    }

    private int gonePlaces(Row row) {
        int gone = 0;
        for (int place = 0; place < current.length; place++) {
            if (!current.hasFigure(row.numberAt(place))) {
                gone |= 1 << place;
            }
        }
        return gone;
    }

    private long knownPlaces(Row row) {
        long known = 0;
        for (int place = 0; place < current.length; place++) {
            if (current.hasFigure(row.numberAt(place))) {
                known |= Figures.maskAt(current.length, place);
            }
        }
        return known;
    }

    private long knownFigures(Row row) {
        long figures = 0;
        for (int place = 0; place < current.length; place++) {
            long number = row.numberAt(place);
            if (current.hasFigure(number)) {
                figures |= Figures.figureTold(current.length, place, number);
            }
        }
        return figures;
    }

    private void countFigures(int law, int place) {
        Arrays.fill(figureCounts, 0);
        for (int ticket = 0; ticket < current.tickets; ticket++) {
            if (current.isLucky(law, ticket)) {
                int figure = Figures.figureAt(current.faceOf(ticket), current.length, place);
                // a figure is four bits, so it is always below sixteen
                figureCounts[figure & (MOST_BASE - 1)]++;
            }
        }
    }

    private int countedFigure(int figure) {
        return isWithin(figure, 0, figureCounts.length - 1) ? figureCounts[figure] : 0;
    }

    /** The bytes that are fed and not yet read. */
    private static final class Tape {
        static final int MOST = 1200;

        private final byte[] bytes = new byte[MOST];
        private int size;

        boolean hasRoomFor(int more) {
            return size + more <= MOST;
        }

        void append(int four) {
            for (int shift = 24; shift >= 0; shift -= 8) {
                if (size < MOST) {
                    bytes[size] = (byte) (four >>> shift);
                    size++;
                }
            }
        }
    }

    /**
     * Tickets' figures packed into one number, a FACE: four bits a figure, the last place lowest.
     * So sums and changes of many figures are told by a few steps, with no loop over places.
     */
    private static final class Figures {
        private static final long EVERY_OTHER = 0x0F0F0F0F0F0F0F0FL;
        private static final long EVERY_BYTE = 0x0101010101010101L;
        private static final long LOWEST_BITS = 0x1111111111111111L;

        static long maskAt(int length, int place) {
            return 15L << 4 * (length - 1 - place);
        }

        static long figureTold(int length, int place, long figure) {
            return (figure & 15L) << 4 * (length - 1 - place);
        }

        static int figureAt(long face, int length, int place) {
            return (int) (face >>> 4 * (length - 1 - place)) & 15;
        }

        static long firstHalf(int length) {
            return masks(length, 0, length / 2);
        }

        static long lastHalf(int length) {
            return masks(length, length - length / 2, length);
        }

        private static long masks(int length, int from, int to) {
            long all = 0;
            for (int place = from; place < to; place++) {
                all |= maskAt(length, place);
            }
            return all;
        }

        static long everySecond(int length, int from) {
            long all = 0;
            for (int place = from; place < length; place += 2) {
                all |= maskAt(length, place);
            }
            return all;
        }

        /** Twelve figures come to 180 at most, so the bytes that are added up never carry. */
        static int sumOf(long face) {
            long pairs = (face & EVERY_OTHER) + (face >>> 4 & EVERY_OTHER);
            return (int) (pairs * EVERY_BYTE >>> 56);
        }

        static int changes(long face, long other) {
            long unlike = face ^ other;
            unlike |= unlike >>> 2;
            unlike |= unlike >>> 1;
            return Long.bitCount(unlike & LOWEST_BITS);
        }

        /** How often each figure stands there, four bits a figure: twelve places fit into that. */
        static long countsOf(long face, int length) {
            long counts = 0;
            long left = face;
            for (int i = 0; i < length; i++) {
                counts += 1L << 4 * (int) (left & 15);
                left >>>= 4;
            }
            return counts;
        }

        static int kindsOf(long face, int length) {
            int seen = 0;
            long left = face;
            for (int i = 0; i < length; i++) {
                seen |= 1 << (int) (left & 15);
                left >>>= 4;
            }
            return Integer.bitCount(seen);
        }

        static boolean isMirror(long face, int length) {
            long turned = 0;
            long left = face;
            for (int i = 0; i < length; i++) {
                turned = turned << 4 | left & 15;
                left >>>= 4;
            }
            return turned == face;
        }
    }

    /** What a text tells: the roll's measures, and its laws as steps over a stack of yes and no. */
    private static final class Script {
        static final int LIKE = 0;
        static final int MIRROR = 1;
        static final int UNLIKE = 2;
        static final int SQUARE = 3;
        static final int SUM = 4;
        static final int REST = 5;
        static final int BY = 6;
        static final int NOT = 7;
        static final int AND = 8;
        static final int OR = 9;

        // each step is told by two bytes of the tape at least
        private static final int MOST_STEPS = Tape.MOST / 2;

        private int length;
        private int base;
        private int lines;
        private int laws;
        private int size;
        private final int[] ends = new int[MOST_LAWS];
        private final int[] kinds = new int[MOST_STEPS];
        private final long[] ones = new long[MOST_STEPS];
        private final long[] others = new long[MOST_STEPS];

        void clear() {
            length = 0;
            base = 0;
            lines = 0;
            laws = 0;
            size = 0;
        }

        void add(int kind, long one, long other) {
            if (size < MOST_STEPS) {
                kinds[size] = kind;
                ones[size] = one;
                others[size] = other;
                size++;
            }
        }

        void closeLaw() {
            if (laws < MOST_LAWS) {
                ends[laws] = size;
                laws++;
            }
        }

        /** The laws by which a face is lucky, as bits. */
        int luckOf(long face) {
            int sum = Figures.sumOf(face);
            int luck = 0;
            int from = 0;
            for (int law = 0; law < laws && law < MOST_LAWS; law++) {
                if (holds(from, ends[law], face, sum, luck)) {
                    luck |= 1 << law;
                }
                from = ends[law];
            }
            return luck;
        }

        /**
         * The stack is the bits of one number, its top the lowest: seven laws within one another,
         * each with two that wait and one at hand, need no more than fifteen.
         */
        private boolean holds(int from, int to, long face, int sum, int luck) {
            int stack = 0;
            for (int i = from; i < to && i < MOST_STEPS; i++) {
                int kind = kinds[i];
                if (kind == NOT) {
                    stack ^= 1;
                } else if (kind == AND) {
                    stack = stack >>> 1 & (stack | ~1);
                } else if (kind == OR) {
                    stack = stack >>> 1 | stack & 1;
                } else {
                    stack = stack << 1 | (isSo(i, face, sum, luck) ? 1 : 0);
                }
            }
            return (stack & 1) != 0;
        }

        private boolean isSo(int i, long face, int sum, int luck) {
            if (i < 0 || i >= MOST_STEPS) {
                return false;
            }
            long one = ones[i];
            long other = others[i];
            switch (kinds[i]) {
                case LIKE:
                    return Figures.sumOf(face & one) == Figures.sumOf(face & other);
                case MIRROR:
                    return Figures.isMirror(face, length);
                case UNLIKE:
                    return Figures.kindsOf(face, length) == length;
                case SQUARE:
                    return isSquare(sum);
                case SUM:
                    return sum == one;
                case REST:
                    return other > 0 && sum % other == one;
                default:
                    return (luck >>> (int) one & 1) != 0;
            }
        }

        private static boolean isSquare(int sum) {
            int root = 0;
            while (root * root < sum) {
                root++;
            }
            return root * root == sum;
        }
    }

    /** Reads the tape into a script, token by token, up to its end or to the first fault. */
    private static final class Reader {
        private static final int END = 0;
        private static final int WORD = 1;
        private static final int NUMBER = 2;
        private static final int SIGN = 3;
        private static final int NO_TOKEN = 4;

        private static final int CANNOT_STAND = 1;
        private static final int NOT_AS_SAID = 2;
        private static final int TOO_MANY = 3;

        private static final int MOST_NESTED = 6;
        private static final int MOST_JOINS = 24;
        private static final int TOO_GREAT = 1000;

        private final Tape tape;
        private final Script script;
        private int fault;
        private int faultPlace = NONE;
        private int token;
        private int start;
        private int stop;
        private int value;
        private int joins;

        Reader(Tape tape, Script script) {
            this.tape = tape;
            this.script = script;
        }

        void readTape() {
            fault = 0;
            faultPlace = NONE;
            stop = 0;
            script.clear();
            advance();
            for (int i = 0; i < Tape.MOST && fault == 0 && token != END; i++) {
                if (script.lines == 0) {
                    readMeasures();
                } else {
                    passLawWord();
                    readLaw(0);
                    script.closeLaw();
                }
                passSign(';');
                script.lines++;
            }
        }

        private void readMeasures() {
            passWord("roll");
            passWord("length");
            script.length = passNumber(1, MOST_LENGTH);
            passWord("base");
            script.base = passNumber(2, greatestBase(script.length));
        }

        private static int greatestBase(int length) {
            int base = MOST_BASE;
            while (base > 2 && power(base, length) > MOST_TICKETS) {
                base--;
            }
            return base;
        }

        private void passLawWord() {
            if (isWord("law") && script.laws == MOST_LAWS) {
                refuse(TOO_MANY);
            }
            passWord("law");
            joins = 0;
        }

        private void readLaw(int depth) {
            readPart(depth);
            for (int i = 0; i <= MOST_JOINS && fault == 0 && isWord("or"); i++) {
                passJoin();
                readPart(depth);
                script.add(Script.OR, 0, 0);
            }
        }

        private void readPart(int depth) {
            readKind(depth);
            for (int i = 0; i <= MOST_JOINS && fault == 0 && isWord("and"); i++) {
                passJoin();
                readKind(depth);
                script.add(Script.AND, 0, 0);
            }
        }

        private void passJoin() {
            joins++;
            if (joins > MOST_JOINS) {
                refuse(TOO_MANY);
            } else {
                advance();
            }
        }

        private void readKind(int depth) {
            int length = script.length;
            boolean nests = isSign('(') || isWord("not");
            if (fault != 0) {
                return;
            }
            if (nests && depth >= MOST_NESTED) {
                refuse(TOO_MANY);
            } else if (isSign('(')) {
                advance();
                readLaw(depth + 1);
                passSign(')');
            } else if (isWord("not")) {
                advance();
                readKind(depth + 1);
                script.add(Script.NOT, 0, 0);
            } else if (isWord("half")) {
                addPlain(Script.LIKE, Figures.firstHalf(length), Figures.lastHalf(length));
            } else if (isWord("odd")) {
                addPlain(Script.LIKE, Figures.everySecond(length, 0), Figures.everySecond(length, 1));
            } else if (isWord("mirror")) {
                addPlain(Script.MIRROR, 0, 0);
            } else if (isWord("unlike")) {
                addPlain(Script.UNLIKE, 0, 0);
            } else if (isWord("square")) {
                addPlain(Script.SQUARE, 0, 0);
            } else if (isWord("sum")) {
                advance();
                script.add(Script.SUM, passNumber(0, SumTable.MOST_SUM), 0);
            } else if (isWord("rest")) {
                readRest();
            } else if (isWord("by")) {
                advance();
                script.add(Script.BY, passNumber(0, script.laws - 1), 0);
            } else if (isWord("places")) {
                advance();
                long one = readSide();
                passWord("like");
                script.add(Script.LIKE, one, readSide());
            } else {
                refuse(CANNOT_STAND);
            }
        }

        private void addPlain(int kind, long one, long other) {
            advance();
            script.add(kind, one, other);
        }

        private void readRest() {
            advance();
            int rest = passNumber(0, 19);
            passWord("of");
            int divisor = passNumber(rest + 1, 20);
            script.add(Script.REST, rest, divisor);
        }

        /** One number at least; a row of more than length ones holds one twice and is refused. */
        private long readSide() {
            int length = script.length;
            long side = 0;
            for (int i = 0; i <= MOST_LENGTH && fault == 0 && (i == 0 || token == NUMBER); i++) {
                boolean isPlace = token == NUMBER && value < length;
                if (isPlace && (side & Figures.maskAt(length, value)) != 0) {
                    refuse(NOT_AS_SAID);
                }
                int place = passNumber(0, length - 1);
                if (fault == 0) {
                    side |= Figures.maskAt(length, place);
                }
            }
            return side;
        }

        /** The first fault stays, and the reader with it: whoever calls goes on in vain. */
        private void refuse(int what) {
            if (fault == 0) {
                fault = what;
                faultPlace = start;
            }
        }

        private void passWord(String word) {
            if (fault == 0 && isWord(word)) {
                advance();
            } else {
                refuse(CANNOT_STAND);
            }
        }

        private void passSign(char sign) {
            if (fault == 0 && isSign(sign)) {
                advance();
            } else {
                refuse(CANNOT_STAND);
            }
        }

        private int passNumber(int least, int greatest) {
            int number = value;
            if (token != NUMBER) {
                refuse(CANNOT_STAND);
            } else if (number < least || number > greatest) {
                refuse(NOT_AS_SAID);
            }
            if (fault != 0) {
                return 0;
            }
            advance();
            return number;
        }

        private boolean isSign(char sign) {
            return token == SIGN && value == sign;
        }

        private boolean isWord(String word) {
            if (token != WORD || stop - start != word.length()) {
                return false;
            }
            for (int i = 0; i < word.length(); i++) {
                if (tape.bytes[start + i] != word.charAt(i)) {
                    return false;
                }
            }
            return true;
        }

        /** Goes to the next token: behind blanks, the longest that begins there. */
        private void advance() {
            byte[] bytes = tape.bytes;
            int size = tape.size;
            while (stop < size && (bytes[stop] == ' ' || bytes[stop] == '\n')) {
                stop++;
            }
            start = stop;
            value = 0;
            if (start >= size) {
                token = END;
            } else if (bytes[start] >= 'a' && bytes[start] <= 'z') {
                token = WORD;
                while (stop < size && bytes[stop] >= 'a' && bytes[stop] <= 'z') {
                    stop++;
                }
            } else if (bytes[start] >= '0' && bytes[start] <= '9') {
                token = NUMBER;
                while (stop < size && bytes[stop] >= '0' && bytes[stop] <= '9') {
                    // what is too great stays so, however many digits follow
                    value = value > TOO_GREAT ? value : value * 10 + bytes[stop] - '0';
                    stop++;
                }
            } else {
                value = bytes[start];
                token = value == ';' || value == '(' || value == ')' ? SIGN : NO_TOKEN;
                stop++;
            }
        }
    }

    /** The roll: each ticket's face, and the laws by which it is lucky; without tickets there is none. */
    private static final class Roll {
        private int length;
        private int base;
        private int tickets;
        private int laws;
        private int lines;
        // grown when a greater roll comes, and used again by all others
        private long[] faces = new long[0];
        private int[] luck = new int[0];

        void buildFrom(Script script) {
            length = script.length;
            base = script.base;
            laws = script.laws;
            lines = script.lines;
            tickets = lines == 0 ? 0 : power(base, length);
            makeRoom(tickets);
            for (int ticket = 0; ticket < tickets && base > 1; ticket++) {
                faces[ticket] = faces[ticket / base] << 4 | ticket % base;
                luck[ticket] = script.luckOf(faces[ticket]);
            }
        }

        void copyFrom(Roll other) {
            length = other.length;
            base = other.base;
            tickets = other.tickets;
            laws = other.laws;
            lines = other.lines;
            makeRoom(tickets);
            System.arraycopy(other.faces, 0, faces, 0, tickets);
            System.arraycopy(other.luck, 0, luck, 0, tickets);
        }

        private void makeRoom(int n) {
            if (faces.length < n) {
                faces = new long[n];
                luck = new int[n];
            }
        }

        boolean stands() {
            return tickets > 0;
        }

        int lineCount() {
            return base > 1 ? tickets / base : 0;
        }

        boolean hasTicket(int ticket) {
            return ticket >= 0 && ticket < tickets;
        }

        boolean hasLaw(int law) {
            return law >= 0 && law < laws;
        }

        boolean hasSet(int set) {
            return stands() && set >= 0 && set >>> laws == 0;
        }

        boolean hasPlace(int place) {
            return place >= 0 && place < length;
        }

        boolean hasFigure(long figure) {
            return figure >= 0 && figure < base;
        }

        long faceOf(int ticket) {
            return hasTicket(ticket) ? faces[ticket] : 0;
        }

        int luckOf(int ticket) {
            return hasTicket(ticket) ? luck[ticket] : 0;
        }

        int luckBit(int law, int ticket) {
            return hasTicket(ticket) ? luck[ticket] >>> law & 1 : 0;
        }

        boolean isLucky(int law, int ticket) {
            return ticket >= 0 && ticket < tickets && (luck[ticket] >>> law & 1) != 0;
        }

        boolean isLuckyNumber(int law, long number) {
            return number >= 0 && number < tickets && isLucky(law, (int) number);
        }

        int total(int law) {
            return tally(law, 0, tickets);
        }

        int totalByAny() {
            int all = 0;
            for (int ticket = 0; ticket < tickets; ticket++) {
                if (luckOf(ticket) != 0) {
                    all++;
                }
            }
            return all;
        }

        /** Lucky ones from one on, to another one that no longer counts. */
        int tally(int law, int from, int to) {
            int all = 0;
            int stop = Math.min(to, tickets);
            for (int ticket = Math.max(from, 0); ticket < stop; ticket++) {
                all += luck[ticket] >>> law & 1;
            }
            return all;
        }

        int seekUp(int law, int from) {
            for (int ticket = from; ticket < tickets; ticket++) {
                if (isLucky(law, ticket)) {
                    return ticket;
                }
            }
            return NONE;
        }

        int seekDown(int law, int from) {
            for (int ticket = from; ticket >= 0; ticket--) {
                if (isLucky(law, ticket)) {
                    return ticket;
                }
            }
            return NONE;
        }

        int pick(int law, int i) {
            int left = i;
            for (int ticket = 0; ticket < tickets && left >= 0; ticket++) {
                if (isLucky(law, ticket)) {
                    if (left == 0) {
                        return ticket;
                    }
                    left--;
                }
            }
            return NONE;
        }

        int onward(int ticket, int step) {
            return tickets < 1 ? 0 : (ticket + step) % tickets;
        }

        int tallyBySteps(int law, int ticket, int step, int n) {
            int all = 0;
            int place = ticket;
            for (int i = 0; i < n && hasTicket(place); i++) {
                all += luck[place] >>> law & 1;
                place = onward(place, step);
            }
            return all;
        }

        int firstUnlike(int law, int other) {
            for (int ticket = 0; ticket < tickets; ticket++) {
                if (luckBit(law, ticket) != luckBit(other, ticket)) {
                    return ticket;
                }
            }
            return NONE;
        }

        private boolean isFitting(int law, int ticket, long known, long figures) {
            return (faceOf(ticket) & known) == figures && isLucky(law, ticket);
        }

        int tallyFitting(int law, long known, long figures) {
            int all = 0;
            for (int ticket = 0; ticket < tickets; ticket++) {
                if (isFitting(law, ticket, known, figures)) {
                    all++;
                }
            }
            return all;
        }

        int firstFitting(int law, long known, long figures) {
            for (int ticket = 0; ticket < tickets; ticket++) {
                if (isFitting(law, ticket, known, figures)) {
                    return ticket;
                }
            }
            return NONE;
        }

        int fewestChanges(int law, int ticket) {
            long face = faceOf(ticket);
            int fewest = NONE;
            for (int other = 0; other < tickets; other++) {
                if (isLucky(law, other)) {
                    int changes = Figures.changes(face, faceOf(other));
                    fewest = fewest == NONE ? changes : Math.min(fewest, changes);
                }
            }
            return fewest;
        }
    }

    /** Goes from a lucky ticket to all that walks lead to, the near ones first. */
    private static final class Search {
        private int[] queue = new int[0];
        // changes from where it began, and one more; 0: not reached
        private int[] far = new int[0];
        // tickets that are unlike at one place alone are a line: once gone along, all of it is reached
        private byte[] gone = new byte[0];

        void prepare(Roll roll) {
            if (queue.length < roll.tickets) {
                queue = new int[roll.tickets];
                far = new int[roll.tickets];
            } else {
                Arrays.fill(far, 0);
            }
            int lines = roll.length * roll.lineCount();
            if (gone.length < lines) {
                gone = new byte[lines];
            } else {
                Arrays.fill(gone, (byte) 0);
            }
        }

        boolean isReached(int ticket) {
            return changesTo(ticket) != NONE;
        }

        int changesTo(int ticket) {
            return ticket >= 0 && ticket < far.length ? far[ticket] - 1 : NONE;
        }

        /** How many it comes to, the first one too. */
        int spread(Roll roll, int law, int from) {
            int size = reach(from, 1, 0);
            for (int i = 0; i < size && i < queue.length; i++) {
                size = spreadAround(roll, law, queue[i], size);
            }
            return size;
        }

        private int spreadAround(Roll roll, int law, int ticket, int before) {
            int size = before;
            int base = roll.base;
            int lines = roll.lineCount();
            int weight = 1;
            for (int place = 0; place < roll.length && weight > 0 && base > 1; place++) {
                int above = ticket / weight / base;
                int below = ticket % weight;
                int line = place * lines + above * weight + below;
                if (line >= 0 && line < gone.length && gone[line] == 0) {
                    gone[line] = 1;
                    size = spreadAlong(roll, law, ticket, above * base * weight + below, weight, size);
                }
                weight *= base;
            }
            return size;
        }

        private int spreadAlong(Roll roll, int law, int ticket, int head, int weight, int before) {
            int size = before;
            int steps = changesTo(ticket) + 2;
            int other = head;
            for (int figure = 0; figure < roll.base; figure++) {
                if (roll.isLucky(law, other) && !isReached(other)) {
                    size = reach(other, steps, size);
                }
                other += weight;
            }
            return size;
        }

        private int reach(int ticket, int steps, int size) {
            if (ticket < 0 || ticket >= far.length || size < 0 || size >= queue.length) {
                return size;
            }
            far[ticket] = steps;
            queue[size] = ticket;
            return size + 1;
        }
    }

    /** A slot: a row of numbers of one width, or nothing. */
    private static final class Row {
        static final int MOST = 60;

        private int width = NONE;
        private int size;
        private final long[] numbers = new long[MOST];

        boolean stands() {
            return width != NONE;
        }

        void begin(int newWidth, int n) {
            width = newWidth;
            size = n;
            Arrays.fill(numbers, 0);
        }

        /** Added up as longs, so that no great number seems to be a small one. */
        boolean hasStretch(int from, int n) {
            return from >= 0 && n >= 0 && (long) from + n <= size;
        }

        long numberAt(int i) {
            return i >= 0 && i < size && i < MOST ? numbers[i] : NONE;
        }

        void put(int i, long v) {
            if (i >= 0 && i < size && i < MOST) {
                numbers[i] = cut(v);
            }
        }

        private long cut(long v) {
            switch (width) {
                case 0:
                    return (byte) v;
                case 1:
                    return (short) v;
                case 2:
                    return (int) v;
                default:
                    return v;
            }
        }

        void take(int to, Row from, int i, int n) {
            if (hasStretch(to, n) && from.hasStretch(i, n)) {
                System.arraycopy(from.numbers, i, numbers, to, n);
            }
        }

        boolean isNewAt(int i) {
            for (int earlier = 0; earlier < i; earlier++) {
                if (numberAt(earlier) == numberAt(i)) {
                    return false;
                }
            }
            return true;
        }
    }

    /** How many tickets of a length and a base come to each sum. */
    private static final class SumTable {
        static final int MOST_SUM = 180;

        private final long[] ways = new long[MOST_SUM + 1];

        void fill(int length, int base) {
            Arrays.fill(ways, 0);
            ways[0] = 1;
            for (int place = 0; place < length; place++) {
                addPlace(base);
            }
        }

        /** Sums of all below, less those that are a base or more below: one pass up, one down. */
        private void addPlace(int base) {
            for (int sum = 1; sum <= MOST_SUM; sum++) {
                ways[sum] += ways[sum - 1];
            }
            for (int sum = MOST_SUM; sum >= base && base > 0; sum--) {
                ways[sum] -= ways[sum - base];
            }
        }

        long waysTo(int sum) {
            return sum >= 0 && sum <= MOST_SUM ? ways[sum] : 0;
        }
    }

    /** Days of a year of 365, as four figures: the day of the month and the month. */
    private static final class Year {
        static final int DAYS = 365;

        private static final int[] MONTHS = {31, 28, 31, 30, 31, 30, 31, 31, 30, 31, 30, 31};

        static boolean hasDay(int day) {
            return day >= 1 && day <= DAYS;
        }

        static int lengthOf(int month) {
            return month >= 1 && month <= MONTHS.length ? MONTHS[month - 1] : 0;
        }

        static int figuresOf(int day) {
            int left = day;
            int month = 1;
            while (month < MONTHS.length && left > lengthOf(month)) {
                left -= lengthOf(month);
                month++;
            }
            return left * 100 + month;
        }

        static boolean isLuckyDate(int figures) {
            int day = figures / 100;
            int month = figures % 100;
            return day / 10 + day % 10 == month / 10 + month % 10;
        }
    }
}
