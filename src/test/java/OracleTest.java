import java.lang.reflect.Method;
import java.util.ArrayList;
import java.util.HashMap;
import java.util.List;
import java.util.Map;
import java.util.Random;

/** Random runs of calls on the class and on the oracle: every answer of both is the same. */
public final class OracleTest {
    /** Every method but feed and roll, with what its numbers stand for. */
    private static final String[] CALLS = {
        "end n", "fault what", "figure ticket place", "sums ticket what", "lucky law ticket", "laws ticket",
        "many law", "rank law number", "next law ticket", "last law ticket", "nth law i", "gap law what",
        "waits law ticket step", "hits law ticket step n", "steps law ticket n what", "chance law what",
        "share law what", "whose law ticket", "both set", "just set", "so n", "alike law law",
        "differ law law", "worn slot law what", "likely slot law place figure", "mend law ticket",
        "mended law ticket", "nearest law ticket", "about ticket", "draw law seed", "sold law seed n",
        "first law seed n", "seldom law few few", "sets few", "judge slot law", "kept slot law",
        "between law ticket ticket", "run law what", "window law number what", "have law sum",
        "at law place figure", "mostly law place", "same law ticket what", "walk law ticket ticket",
        "islands law what", "date day", "days day", "month n", "of place base sum", "halves place base",
        "middle place base", "most place base", "dice place base sum", "count what", "image few", "back few",
        "row slot few n", "write slot i value", "paste slot i slot i n",
    };

    private static final String[] KINDS = {
        "half", "odd", "mirror", "unlike", "square", "sum N", "rest N of N", "by N", "places P like P",
        "half", "odd", "not K", "( L )", "not K", "( L )",
    };

    private static final Check CHECK = new Check();
    private static final Map<String, Method> REAL = methodsOf(LuckyTicket.class);
    private static final Map<String, Method> TOLD = methodsOf(Oracle.class);

    private final Random random;
    private final LuckyTicket real = new LuckyTicket();
    private final Oracle told = new Oracle();
    private final List<String> log = new ArrayList<>();

    private OracleTest(long seed) {
        random = new Random(seed);
    }

    public static void main(String[] args) throws ReflectiveOperationException {
        CHECK.due("methods that are called", CALLS.length + 2, REAL.size());
        int runs = args.length > 0 ? Integer.parseInt(args[0]) : 300;
        for (int seed = 0; seed < runs; seed++) {
            new OracleTest(seed).go(seed % 20 == 0 ? 20000 : seed % 4 == 0 ? 1000 : 100);
        }
        CHECK.finish();
    }

    private static Map<String, Method> methodsOf(Class<?> type) {
        Map<String, Method> methods = new HashMap<>();
        for (Method method : type.getDeclaredMethods()) {
            if (!java.lang.reflect.Modifier.isPrivate(method.getModifiers()) && !method.isSynthetic()) {
                method.setAccessible(true);
                methods.put(method.getName(), method);
            }
        }
        return methods;
    }

    private void go(int mostTickets) throws ReflectiveOperationException {
        int calls = mostTickets > 1000 ? 60 : 200;
        if (random.nextInt(4) != 0) {
            tell(mostTickets);
        }
        for (int i = 0; i < calls; i++) {
            if (random.nextInt(40) == 0) {
                tell(mostTickets);
            } else if (random.nextInt(25) == 0) {
                writeWorn();
            } else {
                String[] parts = CALLS[random.nextInt(CALLS.length)].split(" ");
                long[] numbers = new long[parts.length - 1];
                for (int p = 1; p < parts.length; p++) {
                    numbers[p - 1] = pick(parts[p]);
                }
                call(parts[0], numbers);
            }
        }
    }

    private long call(String name, long... numbers) throws ReflectiveOperationException {
        Method method = REAL.get(name);
        Object[] args = new Object[numbers.length];
        StringBuilder text = new StringBuilder(name).append('(');
        for (int i = 0; i < args.length; i++) {
            args[i] = method.getParameterTypes()[i] == long.class ? (Object) numbers[i] : (Object) (int) numbers[i];
            text.append(i == 0 ? "" : ", ").append(args[i]);
        }
        long got = ((Number) method.invoke(real, args)).longValue();
        long want = ((Number) TOLD.get(name).invoke(told, args)).longValue();
        log.add(text.append(')').toString());
        if (got != want) {
            System.out.println("run: " + log);
        }
        CHECK.due(text.toString(), got, want);
        return want;
    }

    private long pick(String what) {
        if (random.nextInt(60) == 0) {
            int[] odd = {Integer.MIN_VALUE, -2, -1, 0, Integer.MAX_VALUE, 1 << 16, 20000, 20001, 9999, 10000};
            return odd[random.nextInt(odd.length)];
        }
        int tickets = told.count(2);
        switch (what) {
            case "law":
                return random.nextInt(told.count(3) + 1) - random.nextInt(20) / 19;
            case "ticket":
            case "number":
                return random.nextInt(tickets + 1) + random.nextInt(20) / 19;
            case "place":
                return random.nextInt(told.count(0) + 2) + (random.nextInt(3) == 0 ? random.nextInt(12) : 0);
            case "figure":
                return random.nextInt(told.count(1) + 1);
            case "base":
                return random.nextInt(17) + 1;
            case "what":
                return random.nextInt(8) - random.nextInt(2);
            case "set":
                return random.nextInt((1 << told.count(3)) + 1);
            case "slot":
                return random.nextInt(5);
            case "few":
                return random.nextInt(6) - random.nextInt(6) / 5;
            case "step":
                return random.nextBoolean() ? random.nextInt(30) : random.nextInt(10001);
            case "seed":
                return random.nextInt(2000000001);
            case "sum":
                return random.nextBoolean() ? random.nextInt(20) : random.nextInt(202);
            case "day":
                return random.nextInt(367);
            case "value":
                return random.nextInt(4) == 0 ? random.nextLong() : random.nextInt(tickets + 2);
            case "i":
                return random.nextInt(random.nextBoolean() ? 6 : 65) - random.nextInt(10) / 9;
            default:
                return random.nextInt(random.nextBoolean() ? 14 : 65) - random.nextInt(10) / 9;
        }
    }

    /** A row of so many numbers as the roll's tickets have figures, some of them gone. */
    private void writeWorn() throws ReflectiveOperationException {
        int slot = random.nextInt(4);
        int length = told.count(0);
        call("row", slot, random.nextInt(4), length);
        for (int i = 0; i < length; i++) {
            call("write", slot, i, random.nextInt(told.count(1) * 2) - random.nextInt(2));
        }
        for (int what = 0; what < 4; what++) {
            call("worn", slot, pick("law"), what);
        }
        call("likely", slot, pick("law"), random.nextInt(length + 1), pick("figure"));
    }

    private void tell(int mostTickets) throws ReflectiveOperationException {
        call("end", 0);
        String text = random.nextInt(20) == 0 ? "" : text(mostTickets);
        if (random.nextInt(4) == 0 && !text.isEmpty()) {
            text = spoilt(text);
        }
        for (int from = 0; from < text.length(); from += 20) {
            int[] w = Check.words(text, from);
            call("feed", w[0], w[1], w[2], w[3], w[4]);
        }
        call("end", Math.min(text.length(), 1200));
        if (call("roll") == -4) {
            log.add("text: " + text);
        }
        call("fault", 0);
        call("fault", 1);
    }

    private String spoilt(String text) {
        int at = random.nextInt(text.length());
        int to = Math.min(text.length(), at + 1 + random.nextInt(6));
        String[] odd = {"", ";", "law ", "or ", "not ", "99", "(", ")", "!", "\n", "sum ", " 7 ", "roll", "" + (char) 200};
        return text.substring(0, at) + odd[random.nextInt(odd.length)] + text.substring(random.nextBoolean() ? at : to);
    }

    private String text(int mostTickets) {
        int length;
        int base;
        do {
            length = 1 + random.nextInt(12);
            base = 2 + random.nextInt(15);
        } while (Math.pow(base, length) > mostTickets);
        StringBuilder text = new StringBuilder("roll length " + length + " base " + base + ";");
        int laws = random.nextInt(random.nextInt(8) == 0 ? 11 : 5);
        for (int law = 0; law < laws; law++) {
            text.append(random.nextBoolean() ? "\nlaw " : "law ").append(law(length, base, law, 0)).append(';');
        }
        return text.toString();
    }

    private String law(int length, int base, int law, int depth) {
        StringBuilder text = new StringBuilder(kind(length, base, law, depth));
        int joins = random.nextInt(30) == 0 ? 26 : random.nextInt(depth > 1 ? 2 : 4);
        for (int i = 0; i < joins; i++) {
            text.append(random.nextBoolean() ? " and " : " or ").append(kind(length, base, law, depth));
        }
        return text.toString();
    }

    private String kind(int length, int base, int law, int depth) {
        String kind = KINDS[random.nextInt(depth > 8 ? 11 : KINDS.length)];
        switch (kind) {
            case "not K":
                return "not " + kind(length, base, law, depth + 1);
            case "( L )":
                return "(" + law(length, base, law, depth + 1) + ")";
            case "sum N":
                return "sum " + random.nextInt(length * (base - 1) + 1);
            case "rest N of N":
                int by = 1 + random.nextInt(random.nextInt(50) == 0 ? 22 : 5);
                return "rest " + random.nextInt(by + random.nextInt(50) / 49) + " of " + by;
            case "by N":
                return law == 0 && random.nextInt(20) != 0 ? "odd" : "by " + random.nextInt(law + 1 - (law == 0 ? 0 : random.nextInt(40) / 39 ^ 1));
            case "places P like P":
                return "places " + side(length) + "like " + side(length);
            default:
                return kind;
        }
    }

    private String side(int length) {
        StringBuilder text = new StringBuilder();
        int from = random.nextInt(length);
        int n = 1 + random.nextInt(Math.min(length, 4));
        for (int i = 0; i < n; i++) {
            text.append((from + i) % length + random.nextInt(200) / 199).append(' ');
        }
        return text.toString();
    }
}
