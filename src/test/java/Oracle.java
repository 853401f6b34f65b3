import java.math.BigInteger;
import java.util.ArrayDeque;
import java.util.ArrayList;
import java.util.Arrays;
import java.util.Deque;
import java.util.HashMap;
import java.util.HashSet;
import java.util.List;
import java.util.Map;
import java.util.Set;
import java.util.function.IntPredicate;
import java.util.function.Predicate;
import java.util.stream.IntStream;

/**
 * The document told a second time, as slowly and plainly as can be, with the whole Java library:
 * figures are lists, laws are predicates, faults are exceptions. Methods bear the face's names.
 */
final class Oracle {
    private static final class Fault extends RuntimeException {
        private static final long serialVersionUID = 1L;
        final int what;
        final int place;

        Fault(int what, int place) {
            this.what = what;
            this.place = place;
        }
    }

    private record Token(String text, int place) {
        boolean isNumber() {
            return !text.isEmpty() && Character.isDigit(text.charAt(0));
        }
    }

    /** A roll that never changes once it is made, so an image may be the same one. */
    private static final class Told {
        int length;
        int base;
        int lines;
        int tickets;
        final List<Predicate<int[]>> laws = new ArrayList<>();
        final List<Set<Integer>> lucky = new ArrayList<>();
        final List<int[]> figures = new ArrayList<>();
    }

    private static final class Parser {
        final List<Token> tokens = new ArrayList<>();
        final Told told = new Told();
        int here;
        int joins;

        Parser(String text) {
            int i = 0;
            while (i < text.length()) {
                char c = text.charAt(i);
                int from = i;
                i++;
                if (c == ' ' || c == '\n') {
                    continue;
                }
                String kind = c >= 'a' && c <= 'z' ? "[a-z]" : c >= '0' && c <= '9' ? "[0-9]" : null;
                while (kind != null && i < text.length() && text.substring(i, i + 1).matches(kind)) {
                    i++;
                }
                tokens.add(new Token(text.substring(from, i), from));
            }
            tokens.add(new Token("", text.length()));
        }

        Token look() {
            return tokens.get(here);
        }

        boolean sees(String text) {
            return look().text.equals(text);
        }

        void pass(String text) {
            if (!sees(text)) {
                throw new Fault(1, look().place);
            }
            here++;
        }

        int number(IntPredicate isRight) {
            Token token = look();
            if (!token.isNumber()) {
                throw new Fault(1, token.place);
            }
            BigInteger value = new BigInteger(token.text);
            if (value.bitLength() > 30 || !isRight.test(value.intValue())) {
                throw new Fault(2, token.place);
            }
            here++;
            return value.intValue();
        }

        Told parse() {
            while (!sees("")) {
                if (told.lines == 0) {
                    pass("roll");
                    pass("length");
                    told.length = number(n -> n >= 1 && n <= 12);
                    pass("base");
                    told.base = number(n -> n >= 2 && n <= 16 && Math.pow(n, told.length) <= 20000);
                } else {
                    if (sees("law") && told.laws.size() == 9) {
                        throw new Fault(3, look().place);
                    }
                    pass("law");
                    joins = 0;
                    told.laws.add(law(0));
                }
                pass(";");
                told.lines++;
            }
            return told;
        }

        Predicate<int[]> law(int nested) {
            Predicate<int[]> all = part(nested);
            while (sees("or")) {
                join();
                all = all.or(part(nested));
            }
            return all;
        }

        Predicate<int[]> part(int nested) {
            Predicate<int[]> all = kind(nested);
            while (sees("and")) {
                join();
                all = all.and(kind(nested));
            }
            return all;
        }

        void join() {
            joins++;
            if (joins == 25) {
                throw new Fault(3, look().place);
            }
            here++;
        }

        Predicate<int[]> kind(int nested) {
            Token token = look();
            if ((sees("not") || sees("(")) && nested == 6) {
                throw new Fault(3, token.place);
            }
            here++;
            switch (token.text) {
                case "not":
                    return kind(nested + 1).negate();
                case "(":
                    Predicate<int[]> inner = law(nested + 1);
                    pass(")");
                    return inner;
                case "half":
                    return f -> firstHalf(f) == lastHalf(f);
                case "odd":
                    return f -> from(f, 0) == from(f, 1);
                case "mirror":
                    return f -> Arrays.equals(f, turned(f));
                case "unlike":
                    return f -> Arrays.stream(f).distinct().count() == f.length;
                case "square":
                    return f -> IntStream.range(0, 20).anyMatch(r -> r * r == sum(f));
                case "sum":
                    int wanted = number(n -> n <= 180);
                    return f -> sum(f) == wanted;
                case "rest":
                    int rest = number(n -> n <= 19);
                    pass("of");
                    int by = number(n -> n >= 1 && n <= 20 && rest < n);
                    return f -> sum(f) % by == rest;
                case "by":
                    return told.laws.get(number(n -> n < told.laws.size()));
                case "places":
                    List<Integer> one = side();
                    pass("like");
                    List<Integer> other = side();
                    return f -> one.stream().mapToInt(p -> f[p]).sum() == other.stream().mapToInt(p -> f[p]).sum();
                default:
                    throw new Fault(1, token.place);
            }
        }

        List<Integer> side() {
            List<Integer> places = new ArrayList<>();
            do {
                places.add(number(n -> n < told.length && !places.contains(n)));
            } while (look().isNumber());
            return places;
        }
    }

    private static int sum(int[] f) {
        return Arrays.stream(f).sum();
    }

    private static int firstHalf(int[] f) {
        return Arrays.stream(f, 0, f.length / 2).sum();
    }

    private static int lastHalf(int[] f) {
        return Arrays.stream(f, f.length - f.length / 2, f.length).sum();
    }

    private static int from(int[] f, int at) {
        return IntStream.range(0, f.length).filter(p -> p % 2 == at).map(p -> f[p]).sum();
    }

    private static int[] turned(int[] f) {
        return IntStream.range(0, f.length).map(p -> f[f.length - 1 - p]).toArray();
    }

    private static int[] sorted(int[] f) {
        int[] g = f.clone();
        Arrays.sort(g);
        return g;
    }

    private static int apart(int[] f, int[] g) {
        return (int) IntStream.range(0, f.length).filter(p -> f[p] != g[p]).count();
    }

    private final StringBuilder tape = new StringBuilder();
    private Told roll = new Told();
    private int fault;
    private int place = -1;
    private final Told[] images = new Told[3];
    private final Object[] slots = new Object[4];

    private boolean noLaw(int law) {
        return law < 0 || law >= roll.laws.size();
    }

    private boolean noTicket(int ticket) {
        return ticket < 0 || ticket >= roll.tickets;
    }

    private boolean out(int n, int least, int most) {
        return n < least || n > most;
    }

    private boolean is(int law, int ticket) {
        return roll.lucky.get(law).contains(ticket);
    }

    private IntStream all() {
        return IntStream.range(0, roll.tickets);
    }

    private IntStream luckyOnes(int law) {
        return all().filter(t -> is(law, t));
    }

    int feed(int a, int b, int c, int d, int e) {
        if (tape.length() + 20 > 1200) {
            return -1;
        }
        for (int w : new int[] {a, b, c, d, e}) {
            for (int i = 3; i >= 0; i--) {
                tape.append((char) (w >> 8 * i & 255));
            }
        }
        return tape.length();
    }

    int end(int n) {
        if (n < 0 || n > tape.length()) {
            return -1;
        }
        tape.setLength(n);
        return n;
    }

    int roll() {
        String text = tape.toString();
        try {
            Told told = new Parser(text).parse();
            fill(told);
            roll = told;
            tape.setLength(0);
            fault = 0;
            place = -1;
            return roll.lines;
        } catch (Fault f) {
            fault = f.what;
            place = f.place;
            return -4;
        }
    }

    private static void fill(Told told) {
        told.tickets = told.lines == 0 ? 0 : (int) Math.round(Math.pow(told.base, told.length));
        told.laws.forEach(law -> told.lucky.add(new HashSet<>()));
        for (int t = 0; t < told.tickets; t++) {
            int[] f = new int[told.length];
            int left = t;
            for (int p = told.length - 1; p >= 0; p--) {
                f[p] = left % told.base;
                left /= told.base;
            }
            told.figures.add(f);
            for (int law = 0; law < told.laws.size(); law++) {
                if (told.laws.get(law).test(f)) {
                    told.lucky.get(law).add(t);
                }
            }
        }
    }

    int fault(int what) {
        return what == 0 ? fault : what == 1 ? place : -1;
    }

    int figure(int ticket, int at) {
        return noTicket(ticket) || out(at, 0, roll.length - 1) ? -2 : roll.figures.get(ticket)[at];
    }

    int sums(int ticket, int what) {
        if (noTicket(ticket) || out(what, 0, 5)) {
            return -2;
        }
        int[] f = roll.figures.get(ticket);
        int unlike = (int) Arrays.stream(f).distinct().count();
        return new int[] {sum(f), firstHalf(f), lastHalf(f), from(f, 0), from(f, 1), unlike}[what];
    }

    int lucky(int law, int ticket) {
        return noLaw(law) || noTicket(ticket) ? -2 : is(law, ticket) ? 1 : 0;
    }

    int laws(int ticket) {
        return noTicket(ticket) ? -2 : IntStream.range(0, roll.laws.size()).filter(l -> is(l, ticket)).map(l -> 1 << l).sum();
    }

    int many(int law) {
        return noLaw(law) ? -2 : roll.lucky.get(law).size();
    }

    int rank(int law, int number) {
        return noLaw(law) || out(number, 0, roll.tickets) ? -2 : (int) luckyOnes(law).filter(t -> t < number).count();
    }

    int next(int law, int ticket) {
        return noLaw(law) || noTicket(ticket) ? -2 : luckyOnes(law).filter(t -> t > ticket).min().orElse(-1);
    }

    int last(int law, int ticket) {
        return noLaw(law) || noTicket(ticket) ? -2 : luckyOnes(law).filter(t -> t < ticket).max().orElse(-1);
    }

    int nth(int law, int i) {
        if (noLaw(law)) {
            return -2;
        }
        return i < 0 ? -1 : luckyOnes(law).skip(i).findFirst().orElse(-1);
    }

    int gap(int law, int what) {
        if (noLaw(law) || out(what, 0, 1)) {
            return -2;
        }
        int[] ones = luckyOnes(law).toArray();
        if (ones.length < 2) {
            return -1;
        }
        int longest = IntStream.range(1, ones.length).map(i -> ones[i] - ones[i - 1] - 1).max().getAsInt();
        int behind = ones[IntStream.range(1, ones.length).filter(i -> ones[i] - ones[i - 1] - 1 == longest).min().getAsInt() - 1];
        return what == 0 ? longest : behind;
    }

    private int stepped(int ticket, int step, int k) {
        return (int) ((ticket + (long) step * k) % roll.tickets);
    }

    int waits(int law, int ticket, int step) {
        if (noLaw(law) || noTicket(ticket) || out(step, 1, 9999)) {
            return -2;
        }
        return IntStream.rangeClosed(1, roll.tickets).filter(k -> is(law, stepped(ticket, step, k))).min().orElse(-1);
    }

    int hits(int law, int ticket, int step, int n) {
        if (noLaw(law) || noTicket(ticket) || out(step, 1, 9999) || out(n, 0, 20000)) {
            return -2;
        }
        return (int) IntStream.range(0, n).filter(k -> is(law, stepped(ticket, step, k))).count();
    }

    int steps(int law, int ticket, int n, int what) {
        if (noLaw(law) || noTicket(ticket) || out(n, 1, 60) || out(what, 0, 1)) {
            return -2;
        }
        int[] hit = IntStream.rangeClosed(0, 999).map(s -> s == 0 ? -1 : hits(law, ticket, s, n)).toArray();
        int wanted = what == 0 ? 0 : Arrays.stream(hit).max().getAsInt();
        return IntStream.rangeClosed(1, 999).filter(s -> hit[s] == wanted).min().orElse(-1);
    }

    private static int term(long above, long below, int what) {
        BigInteger d = BigInteger.valueOf(above).gcd(BigInteger.valueOf(below));
        return (int) ((what == 0 ? above : below) / d.longValue());
    }

    int chance(int law, int what) {
        return noLaw(law) || out(what, 0, 1) ? -2 : term(many(law), roll.tickets, what);
    }

    int share(int law, int what) {
        if (noLaw(law) || out(what, 0, 1)) {
            return -2;
        }
        return many(law) == 0 ? -1 : term(roll.tickets, 2 * roll.tickets - many(law), what);
    }

    int whose(int law, int ticket) {
        if (noLaw(law) || noTicket(ticket)) {
            return -2;
        }
        int who = 0;
        for (int t = ticket; t < roll.tickets; t++) {
            if (is(law, t)) {
                return who;
            }
            who = 1 - who;
        }
        return -1;
    }

    private boolean noSet(int set) {
        return roll.tickets == 0 || set < 0 || set >= 1 << roll.laws.size();
    }

    int both(int set) {
        return noSet(set) ? -2 : (int) all().filter(t -> (laws(t) & set) == set).count();
    }

    int just(int set) {
        return noSet(set) ? -2 : (int) all().filter(t -> laws(t) == set).count();
    }

    int so(int n) {
        return roll.tickets == 0 || out(n, 0, 9) ? -2 : (int) all().filter(t -> Integer.bitCount(laws(t)) == n).count();
    }

    int alike(int law, int other) {
        return noLaw(law) || noLaw(other) ? -2 : roll.lucky.get(law).equals(roll.lucky.get(other)) ? 1 : 0;
    }

    int differ(int law, int other) {
        return noLaw(law) || noLaw(other) ? -2 : all().filter(t -> is(law, t) ^ is(other, t)).min().orElse(-1);
    }

    private long[] rowOf(int slot) {
        Object row = slots[slot];
        if (row instanceof byte[] b) {
            return IntStream.range(0, b.length).mapToLong(i -> b[i]).toArray();
        }
        if (row instanceof short[] s) {
            return IntStream.range(0, s.length).mapToLong(i -> s[i]).toArray();
        }
        if (row instanceof int[] n) {
            return Arrays.stream(n).asLongStream().toArray();
        }
        return (long[]) row;
    }

    private boolean canBe(long[] row, int ticket) {
        int[] f = roll.figures.get(ticket);
        for (int p = 0; p < roll.length; p++) {
            boolean told = row[p] >= 0 && row[p] < roll.base;
            if (told && row[p] != f[p]) {
                return false;
            }
        }
        return true;
    }

    private int refusal(int slot) {
        return slots[slot] == null ? -6 : rowOf(slot).length != roll.length ? -7 : 0;
    }

    int worn(int slot, int law, int what) {
        if (out(slot, 0, 3) || noLaw(law) || out(what, 0, 3)) {
            return -2;
        }
        if (refusal(slot) != 0) {
            return refusal(slot);
        }
        long[] row = rowOf(slot);
        switch (what) {
            case 0:
                return (int) all().filter(t -> canBe(row, t)).count();
            case 1:
                return (int) luckyOnes(law).filter(t -> canBe(row, t)).count();
            case 2:
                return luckyOnes(law).filter(t -> canBe(row, t)).min().orElse(-1);
            default:
                return IntStream.range(0, roll.length).filter(p -> row[p] < 0 || row[p] >= roll.base).map(p -> 1 << p).sum();
        }
    }

    int likely(int slot, int law, int at, int figure) {
        if (out(slot, 0, 3) || noLaw(law) || out(at, 0, roll.length - 1) || out(figure, 0, roll.base - 1)) {
            return -2;
        }
        if (refusal(slot) != 0) {
            return refusal(slot);
        }
        long[] row = rowOf(slot);
        return (int) luckyOnes(law).filter(t -> canBe(row, t) && roll.figures.get(t)[at] == figure).count();
    }

    int mend(int law, int ticket) {
        if (noLaw(law) || noTicket(ticket)) {
            return -2;
        }
        return luckyOnes(law).map(t -> apart(roll.figures.get(t), roll.figures.get(ticket))).min().orElse(-1);
    }

    int mended(int law, int ticket) {
        int few = mend(law, ticket);
        return few < 0 ? few : luckyOnes(law).filter(t -> apart(roll.figures.get(t), roll.figures.get(ticket)) == few).min().getAsInt();
    }

    int nearest(int law, int ticket) {
        if (noLaw(law) || noTicket(ticket)) {
            return -2;
        }
        int off = luckyOnes(law).map(t -> Math.abs(t - ticket)).min().orElse(-1);
        return off < 0 ? -1 : luckyOnes(law).filter(t -> Math.abs(t - ticket) == off).min().getAsInt();
    }

    private int numberOf(int[] f) {
        int t = 0;
        for (int figure : f) {
            t = t * roll.base + figure;
        }
        return t;
    }

    int about(int ticket) {
        if (noTicket(ticket)) {
            return -2;
        }
        int[] f = roll.figures.get(ticket).clone();
        for (int p = roll.length - roll.length / 2; p < roll.length; p++) {
            f[p] = roll.base - 1 - f[p];
        }
        return numberOf(f);
    }

    private static int[] draws(int seed, int n, int of) {
        BigInteger x = BigInteger.valueOf(seed);
        int[] drawn = new int[n];
        for (int i = 0; i < n; i++) {
            x = x.multiply(BigInteger.valueOf(1103515245)).add(BigInteger.valueOf(12345)).mod(BigInteger.valueOf(2147483648L));
            drawn[i] = x.divide(BigInteger.valueOf(65536)).mod(BigInteger.valueOf(of)).intValue();
        }
        return drawn;
    }

    int draw(int law, int seed) {
        if (noLaw(law) || out(seed, 0, 2000000000)) {
            return -2;
        }
        return many(law) == 0 ? -1 : nth(law, draws(seed, 1, many(law))[0]);
    }

    int sold(int law, int seed, int n) {
        if (noLaw(law) || out(seed, 0, 2000000000) || out(n, 1, 60)) {
            return -2;
        }
        return (int) Arrays.stream(draws(seed, n, roll.tickets)).filter(t -> is(law, t)).count();
    }

    int first(int law, int seed, int n) {
        if (noLaw(law) || out(seed, 0, 2000000000) || out(n, 1, 60)) {
            return -2;
        }
        int[] drawn = draws(seed, n, roll.tickets);
        return IntStream.rangeClosed(1, n).filter(i -> is(law, drawn[i - 1])).min().orElse(-1);
    }

    private static BigInteger choose(int n, int k) {
        BigInteger above = BigInteger.ONE;
        BigInteger below = BigInteger.ONE;
        for (int i = 0; i < k; i++) {
            above = above.multiply(BigInteger.valueOf(n - i));
            below = below.multiply(BigInteger.valueOf(i + 1));
        }
        return k > n ? BigInteger.ZERO : above.divide(below);
    }

    long seldom(int law, int n, int k) {
        if (noLaw(law) || out(n, 1, 4) || out(k, 0, 4)) {
            return -2;
        }
        BigInteger sets = BigInteger.ZERO;
        for (int j = 0; j <= Math.min(n, k); j++) {
            sets = sets.add(choose(many(law), j).multiply(choose(roll.tickets - many(law), n - j)));
        }
        return sets.longValueExact();
    }

    long sets(int n) {
        return roll.tickets == 0 || out(n, 0, 4) ? -2 : choose(roll.tickets, n).longValueExact();
    }

    private boolean isLuckyNumber(int law, long v) {
        return v >= 0 && v < roll.tickets && is(law, (int) v);
    }

    int judge(int slot, int law) {
        if (out(slot, 0, 3) || noLaw(law)) {
            return -2;
        }
        return slots[slot] == null ? -6 : (int) Arrays.stream(rowOf(slot)).takeWhile(v -> isLuckyNumber(law, v)).count();
    }

    int kept(int slot, int law) {
        if (out(slot, 0, 3) || noLaw(law)) {
            return -2;
        }
        return slots[slot] == null ? -6 : (int) Arrays.stream(rowOf(slot)).filter(v -> isLuckyNumber(law, v)).distinct().count();
    }

    int between(int law, int ticket, int to) {
        if (noLaw(law) || noTicket(ticket) || noTicket(to) || ticket > to) {
            return -2;
        }
        return (int) luckyOnes(law).filter(t -> t >= ticket && t <= to).count();
    }

    int run(int law, int what) {
        if (noLaw(law) || out(what, 0, 1)) {
            return -2;
        }
        int best = 0;
        int at = -1;
        for (int t = 0; t < roll.tickets; t++) {
            int n = 0;
            while (t + n < roll.tickets && is(law, t + n)) {
                n++;
            }
            if (n > best) {
                best = n;
                at = t;
            }
            t += n;
        }
        return what == 0 ? best : at;
    }

    int window(int law, int n, int what) {
        if (noLaw(law) || out(n, 1, roll.tickets) || out(what, 0, 3)) {
            return -2;
        }
        int[] below = new int[roll.tickets + 1];
        for (int t = 0; t < roll.tickets; t++) {
            below[t + 1] = below[t] + (is(law, t) ? 1 : 0);
        }
        int[] in = IntStream.rangeClosed(0, roll.tickets - n).map(t -> below[t + n] - below[t]).toArray();
        int wanted = what < 2 ? Arrays.stream(in).max().getAsInt() : Arrays.stream(in).min().getAsInt();
        return what % 2 == 0 ? wanted : IntStream.range(0, in.length).filter(t -> in[t] == wanted).min().getAsInt();
    }

    int have(int law, int sum) {
        return noLaw(law) || sum < 0 ? -2 : (int) luckyOnes(law).filter(t -> sum(roll.figures.get(t)) == sum).count();
    }

    int at(int law, int at, int figure) {
        if (noLaw(law) || out(at, 0, roll.length - 1) || out(figure, 0, roll.base - 1)) {
            return -2;
        }
        return (int) luckyOnes(law).filter(t -> roll.figures.get(t)[at] == figure).count();
    }

    int mostly(int law, int at) {
        if (noLaw(law) || out(at, 0, roll.length - 1)) {
            return -2;
        }
        int most = IntStream.range(0, roll.base).map(f -> at(law, at, f)).max().getAsInt();
        return many(law) == 0 ? -1 : IntStream.range(0, roll.base).filter(f -> at(law, at, f) == most).min().getAsInt();
    }

    int same(int law, int ticket, int what) {
        if (noLaw(law) || noTicket(ticket) || out(what, 0, 2)) {
            return -2;
        }
        int[] wanted = sorted(roll.figures.get(ticket));
        int[] like = all().filter(t -> Arrays.equals(sorted(roll.figures.get(t)), wanted)).toArray();
        int[] luckyLike = Arrays.stream(like).filter(t -> is(law, t)).toArray();
        return what == 0 ? like.length : what == 1 ? luckyLike.length : Arrays.stream(luckyLike).min().orElse(-1);
    }

    private Map<Integer, Integer> reached(int law, int from) {
        Map<Integer, Integer> far = new HashMap<>();
        Deque<Integer> open = new ArrayDeque<>();
        far.put(from, 0);
        open.add(from);
        while (!open.isEmpty()) {
            int t = open.remove();
            for (int p = 0; p < roll.length; p++) {
                for (int f = 0; f < roll.base; f++) {
                    int[] changed = roll.figures.get(t).clone();
                    changed[p] = f;
                    int other = numberOf(changed);
                    if (is(law, other) && !far.containsKey(other)) {
                        far.put(other, far.get(t) + 1);
                        open.add(other);
                    }
                }
            }
        }
        return far;
    }

    int walk(int law, int ticket, int to) {
        if (noLaw(law) || noTicket(ticket) || noTicket(to)) {
            return -2;
        }
        return is(law, ticket) && is(law, to) ? reached(law, ticket).getOrDefault(to, -1) : -1;
    }

    int islands(int law, int what) {
        if (noLaw(law) || out(what, 0, 2)) {
            return -2;
        }
        Set<Integer> seen = new HashSet<>();
        int all = 0;
        int greatest = 0;
        int at = -1;
        for (int t : luckyOnes(law).toArray()) {
            if (!seen.contains(t)) {
                Set<Integer> island = reached(law, t).keySet();
                seen.addAll(island);
                all++;
                if (island.size() > greatest) {
                    greatest = island.size();
                    at = t;
                }
            }
        }
        return what == 0 ? all : what == 1 ? greatest : at;
    }

    int date(int day) {
        if (out(day, 1, 365)) {
            return -2;
        }
        java.time.LocalDate d = java.time.LocalDate.ofYearDay(2023, day);
        return d.getDayOfMonth() * 100 + d.getMonthValue();
    }

    private boolean isLuckyDay(int day) {
        String f = String.format("%04d", date(day));
        return f.charAt(0) + f.charAt(1) == f.charAt(2) + f.charAt(3);
    }

    int days(int day) {
        return out(day, 1, 365) ? -2 : IntStream.rangeClosed(1, 365).filter(n -> isLuckyDay((day + n - 1) % 365 + 1)).min().getAsInt();
    }

    int month(int month) {
        return out(month, 1, 12) ? -2 : (int) IntStream.rangeClosed(1, 365).filter(d -> date(d) % 100 == month && isLuckyDay(d)).count();
    }

    private static final Map<String, Long> WAYS = new HashMap<>();

    private static long ways(int length, int base, int sum) {
        if (length == 0 || sum < 0) {
            return sum == 0 ? 1 : 0;
        }
        String key = length + " " + base + " " + sum;
        Long known = WAYS.get(key);
        if (known == null) {
            long n = 0;
            for (int f = 0; f < base; f++) {
                n += ways(length - 1, base, sum - f);
            }
            known = n;
            WAYS.put(key, known);
        }
        return known;
    }

    private boolean notLong(int length, int base) {
        return out(length, 1, 12) || out(base, 2, 16);
    }

    long of(int length, int base, int sum) {
        return notLong(length, base) || out(sum, 0, 180) ? -2 : ways(length, base, sum);
    }

    long halves(int length, int base) {
        if (notLong(length, base) || length % 2 == 1) {
            return -2;
        }
        // turned about, as many as those of the middle sum
        return ways(length, base, (base - 1) * (length / 2));
    }

    long middle(int length, int base) {
        return notLong(length, base) ? -2 : ways(length, base, (int) Math.floor((base - 1) * length / 2.0));
    }

    int most(int length, int base) {
        if (notLong(length, base)) {
            return -2;
        }
        long most = IntStream.rangeClosed(0, 180).mapToLong(s -> ways(length, base, s)).max().getAsLong();
        return IntStream.rangeClosed(0, 180).filter(s -> ways(length, base, s) == most).min().getAsInt();
    }

    private static long thrown(int n, int f, int sum) {
        if (n == 1) {
            return sum >= 1 && sum <= f ? 1 : 0;
        }
        long all = 0;
        for (int face = 1; face <= f; face++) {
            all += ways(n - 1, f, sum - face - (n - 1));
        }
        return all;
    }

    long dice(int n, int f, int sum) {
        return notLong(n, f) || out(sum, 0, 200) ? -2 : thrown(n, f, sum);
    }

    int count(int what) {
        switch (what) {
            case 0:
                return roll.length;
            case 1:
                return roll.base;
            case 2:
                return roll.tickets;
            case 3:
                return roll.laws.size();
            case 4:
                return roll.lines;
            case 5:
                return tape.length();
            case 6:
                return (int) all().filter(t -> laws(t) != 0).count();
            case 7:
                return (int) Arrays.stream(slots).filter(s -> s != null).count();
            default:
                return -1;
        }
    }

    int image(int k) {
        if (out(k, 0, 2)) {
            return -2;
        }
        images[k] = roll;
        return 0;
    }

    int back(int k) {
        if (out(k, 0, 2)) {
            return -2;
        }
        if (images[k] == null) {
            return -6;
        }
        roll = images[k];
        return 0;
    }

    int row(int slot, int width, int n) {
        if (out(slot, 0, 3) || out(width, 0, 3) || n > 60) {
            return -2;
        }
        if (n < 0) {
            return -3;
        }
        slots[slot] = width == 0 ? new byte[n] : width == 1 ? new short[n] : width == 2 ? new int[n] : new long[n];
        return 0;
    }

    int write(int slot, int i, long v) {
        if (out(slot, 0, 3)) {
            return -2;
        }
        if (slots[slot] == null) {
            return -6;
        }
        if (out(i, 0, rowOf(slot).length - 1)) {
            return -7;
        }
        if (slots[slot] instanceof byte[] b) {
            b[i] = (byte) v;
        } else if (slots[slot] instanceof short[] s) {
            s[i] = (short) v;
        } else if (slots[slot] instanceof int[] n) {
            n[i] = (int) v;
        } else {
            ((long[]) slots[slot])[i] = v;
        }
        return 0;
    }

    int paste(int slot, int i, int to, int k, int n) {
        if (out(slot, 0, 3) || out(to, 0, 3)) {
            return -2;
        }
        if (slots[slot] == null || slots[to] == null) {
            return -6;
        }
        if (slots[slot].getClass() != slots[to].getClass()) {
            return -8;
        }
        try {
            System.arraycopy(slots[slot], i, slots[to], k, n);
            return 0;
        } catch (IndexOutOfBoundsException e) {
            return -7;
        }
    }
}
